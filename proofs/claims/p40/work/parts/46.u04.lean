/-! what methods do (own work, written by wip/gen3/sx3.py) -/
/-! StrikeAwakeModel.readApart()V k -/
abbrev uq_196_k (r0 : Nat) (rp : Nat) (rb : Nat) (B : Nat → Int) (n : Int) (q : Int) (d : xD) (N0 : Nat) (H0 : wq_H) (T : wq_T) (H : wq_H) : Option Value → wq_T → wq_H → Prop := fun r T' H' => T = T' ∧ WT T H' ∧ wfr [(54, 4), (42, 8), (42, 9), (42, 10), (42, 11), (42, 12), (42, 13), (42, 14), (42, 15), (64, 999), (65, 999)] T H H' ∧ none = r ∧ ((((xl3 B n q d).1 = 0) ∧ ((xl3 B n q d).2.2 = (xN B n (xN B n (xN B n (xN B n q))))) ∧ (q ≤ (xN B n (xN B n (xN B n (xN B n q))))) ∧ RC T H' r0 B n (xN B n (xN B n (xN B n (xN B n q)))) ∧ DM T H' rp r0 (xdap B n (xN B n q) d) ∧ FZ T H' rp N0 H0) ∨ (((xl3 B n q d).1 ≠ 0) ∧ RO T H' r0 ((xl3 B n q d).1) ((xl3 B n q d).2.1) ∧ FZ T H' rp N0 H0))
set_option maxHeartbeats 4000000 in
theorem u_196_k {kt : Nat → Option mc_E} {T : wq_T} {H : wq_H} {r0 : Nat} {rp : Nat} {rb : Nat} {B : Nat → Int} {n : Int} {q : Int} {d : xD} {N0 : Nat} {H0 : wq_H} (hW : WT T H) (g0 : T.2.2.2 r0 = some 42) (qrp : H r0 4 = (rp : Int)) (grp : T.2.2.2 rp = some 54) (qrb : H r0 5 = (rb : Int)) (grb : T.2.2.2 rb = some 43) (p0 : xK B n q = 1) (hRC_r0 : RC T H r0 B n q) (hDM_rp : DM T H rp r0 d) (hFZ_rp : FZ T H rp N0 H0) : wpc kt 6 196 [.ref r0] T H (uq_196_k r0 rp rb B n q d N0 H0 T H) := by
  refine wp_enter e196 (Nat.le_of_ble_eq_true rfl) rfl ?_
  have f0 : wfr [(54, 4), (42, 8), (42, 9), (42, 10), (42, 11), (42, 12), (42, 13), (42, 14), (42, 15), (64, 999), (65, 999)] T H H := wfr.rf
  show wp _ _ 196 0 [(0, .ref r0)] [] _ H _
  have u2091 := RC_k hRC_r0
  have u2092 := DM_k hDM_rp
  have h2093 : MA9 T H rp (d 1) := hDM_rp.2.2.2.1
  have h2094 : MA10 T H rp (d 2) := hDM_rp.2.2.2.2.1
  have h2095 : MA11 T H rp (d 3) := hDM_rp.2.2.2.2.2.1
  have h2096 : MA12 T H rp (d 4) := hDM_rp.2.2.2.2.2.2.1
  have h2097 : MA13 T H rp (d 5) := hDM_rp.2.2.2.2.2.2.2.1
  have h2098 : MA14 T H rp (d 6) := hDM_rp.2.2.2.2.2.2.2.2.1
  have h2099 : MA15 T H rp (d 7) := hDM_rp.2.2.2.2.2.2.2.2.2.1
  have h2100 : MA16 T H rp (d 8) := hDM_rp.2.2.2.2.2.2.2.2.2.2.1
  have h2101 : MA17 T H rp (d 9) := hDM_rp.2.2.2.2.2.2.2.2.2.2.2.1
  have h2102 : MA18 T H rp (d 10) := hDM_rp.2.2.2.2.2.2.2.2.2.2.2.2.1
  have h2103 : MA19 T H rp (d 11) := hDM_rp.2.2.2.2.2.2.2.2.2.2.2.2.2.1
  have h2104 : MA20 T H rp (d 12) := hDM_rp.2.2.2.2.2.2.2.2.2.2.2.2.2.2.1
  have h2105 : MA21 T H rp (d 13) := hDM_rp.2.2.2.2.2.2.2.2.2.2.2.2.2.2.2.1
  have h2106 : MA22 T H rp (d 14) := hDM_rp.2.2.2.2.2.2.2.2.2.2.2.2.2.2.2.2.1
  have h2107 : MA23 T H rp (d 15) := hDM_rp.2.2.2.2.2.2.2.2.2.2.2.2.2.2.2.2.2.1
  have h2108 : MA25 T H rp (d 17) := hDM_rp.2.2.2.2.2.2.2.2.2.2.2.2.2.2.2.2.2.2.1
  have h2109 : MA26 T H rp (d 16) := hDM_rp.2.2.2.2.2.2.2.2.2.2.2.2.2.2.2.2.2.2.2
  refine wp_of e196 c196_0 (rw_aload_n (pc' := 1) (v := .ref r0) rfl rfl rfl ?_)
  refine wp_of e196 c196_1 (rw_aload_n (pc' := 2) (v := .ref r0) rfl rfl rfl ?_)
  refine wp_of e196 c196_2 (xg_K (pc' := 5) lf_9_166 hW g0 sh_42 (by decide) (by decide) rfl qrp rfl ?_)
  refine wp_of e196 c196_5 (xg_I (pc' := 8) lf_9_276 hW grp sh_54 (by decide) (by decide) ty_54_4 rfl rfl (fun b2110 b2111 => ?_))
  refine wp_of e196 c196_8 (rw_iconst (pc' := 9) rfl ?_)
  refine wp_of e196 c196_9 (xc_V (pc' := 12) (r := r0) (as := [vI (H rp 4), vI 3]) (st := []) (lm_9_228) rfl rfl (Nat.le_of_ble_eq_true rfl) hW g0 sh_42 (by decide) rfl (by decide) (u_188_k (B := B) (n := n) (q := q) hW g0 ⟨Int.le_trans (by decide) b2110, Int.le_trans b2111 (by decide)⟩ ⟨by decide, by decide⟩ qrb grb (by omega) hRC_r0) (fun R2112 T2113 H2114 p2115 => ?_))
  obtain ⟨e2116, w2118, f2119, e2117, p2120⟩ := p2115
  subst e2116
  subst e2117
  rcases p2120 with ⟨a2121, a2122⟩ | ⟨a2123, a2124⟩
  · have f2125 := f0.tr f2119 rfl
    show wp _ _ 196 12 [(0, .ref r0)] [] _ H2114 _
    have u2126 := RC_k a2122
    refine wp_of e196 c196_12 (rw_aload_n (pc' := 13) (v := .ref r0) rfl rfl rfl ?_)
    have k2127 : H2114 r0 4 = H r0 4 := (f2119 r0 4 _ g0 rfl)
    have q2128 : H2114 r0 4 = (rp : Int) := k2127.trans qrp
    have k2129 : H2114 r0 5 = H r0 5 := (f2119 r0 5 _ g0 rfl)
    have q2130 : H2114 r0 5 = (rb : Int) := k2129.trans qrb
    have h2131 : DM T H2114 rp r0 d := (DM_fr hW grp f2119 rfl hDM_rp)
    refine wp_of e196 c196_13 (xc_V (pc' := 16) (r := r0) (as := []) (st := []) (lm_9_273) rfl rfl (Nat.le_of_ble_eq_true rfl) w2118 g0 sh_42 (by decide) rfl (by decide) (u_194_k (B := B) (n := n) (q := ((xN B n q))) (d := d) w2118 g0 q2128 grp q2130 grb a2122 h2131) (fun R2132 T2133 H2134 p2135 => ?_))
    obtain ⟨e2136, w2138, f2139, z2140, e2137, b2141, p2142⟩ := p2135
    subst e2136
    subst e2137
    rcases p2142 with ⟨a2143, a2144, a2145, a2146, a2147⟩ | ⟨a2148, a2149, a2150⟩
    · have f2151 := f2125.tr f2139 rfl
      show wp _ _ 196 16 [(0, .ref r0)] [vI z2140] _ H2134 _
      have u2152 := RC_k a2147
      refine wp_of e196 c196_16 (rw_istore_n (pc' := 17) (z := z2140) (L' := [(1, vI z2140), (0, .ref r0)]) rfl rfl rfl ?_)
      refine wp_of e196 c196_17 (rw_aload_n (pc' := 18) (v := .ref r0) rfl rfl rfl ?_)
      refine wp_of e196 c196_18 (rw_bipush (pc' := 20) (z := 44) rfl (by decide) ?_)
      have k2153 : H2134 r0 5 = H2114 r0 5 := (f2139 r0 5 _ g0 rfl)
      have q2154 : H2134 r0 5 = (rb : Int) := k2153.trans q2130
      refine wp_of e196 c196_20 (xc_V (pc' := 23) (r := r0) (as := [vI 44]) (st := []) (lm_9_279) rfl rfl (Nat.le_of_ble_eq_true rfl) w2138 g0 sh_42 (by decide) rfl (by decide) (u_197_k (B := B) (n := n) (q := ((xN B n ((xN B n q))))) (kd := 4) w2138 g0 ⟨by decide, by decide⟩ q2154 grb (by omega) a2147) (fun R2155 T2156 H2157 p2158 => ?_))
      obtain ⟨e2159, w2161, f2162, e2160, p2163⟩ := p2158
      subst e2159
      subst e2160
      rcases p2163 with ⟨a2164, a2165⟩ | ⟨a2166, a2167⟩
      · have f2168 := f2151.tr f2162 rfl
        show wp _ _ 196 23 [(1, vI z2140), (0, .ref r0)] [] _ H2157 _
        have u2169 := RC_k a2165
        refine wp_of e196 c196_23 (rw_aload_n (pc' := 24) (v := .ref r0) rfl rfl rfl ?_)
        have k2170 : H2157 r0 4 = H2114 r0 4 := ((f2162 r0 4 _ g0 rfl).trans (f2139 r0 4 _ g0 rfl))
        have q2171 : H2157 r0 4 = (rp : Int) := k2170.trans q2128
        have h2172 : DM T H2157 rp r0 d := (DM_fr w2138 grp f2162 rfl (DM_fr w2118 grp f2139 rfl h2131))
        refine wp_of e196 c196_24 (xc_V (pc' := 27) (r := r0) (as := []) (st := []) (lm_9_176) rfl rfl (Nat.le_of_ble_eq_true rfl) w2161 g0 sh_42 (by decide) rfl (by decide) (u_195_k (B := B) (n := n) (q := ((xN B n ((xN B n ((xN B n q))))))) (d := d) w2161 g0 q2171 grp a2165 h2172) (fun R2173 T2174 H2175 p2176 => ?_))
        obtain ⟨e2177, w2179, f2180, z2181, e2178, b2182, p2183⟩ := p2176
        subst e2177
        subst e2178
        rcases p2183 with ⟨a2184, a2185, a2186, a2187, a2188, a2189⟩ | ⟨a2190, a2191, a2192⟩
        · have f2193 := f2168.tr f2180 rfl
          show wp _ _ 196 27 [(1, vI z2140), (0, .ref r0)] [vI z2181] _ H2175 _
          have u2194 := RC_k a2189
          refine wp_of e196 c196_27 (rw_istore_n (pc' := 28) (z := z2181) (L' := [(2, vI z2181), (1, vI z2140), (0, .ref r0)]) rfl rfl rfl ?_)
          refine wp_of e196 c196_28 (rw_iload_n (pc' := 29) (z := z2140) rfl rfl ?_)
          refine wp_of e196 c196_29 (rw_iload_n (pc' := 30) (z := z2181) rfl rfl ?_)
          refine wp_of e196 c196_30 (rw_icmp_ne (p1 := 37) (p2 := 33) (by decide) rfl ⟨Int.le_trans (by decide) b2141.1, Int.le_trans b2141.2 (by decide)⟩ ⟨Int.le_trans (by decide) b2182.1, Int.le_trans b2182.2 (by decide)⟩ (fun c2195 => ?_) (fun c2195 => ?_))
          · refine wp_of e196 c196_37 (rw_iconst (pc' := 38) rfl ?_)
            refine wp_of e196 c196_38 (rw_istore_n (pc' := 39) (z := 0) (L' := [(3, vI 0), (2, vI z2181), (1, vI z2140), (0, .ref r0)]) rfl rfl rfl ?_)
            refine wp_of e196 c196_39 (rw_iconst (pc' := 40) rfl ?_)
            refine wp_of e196 c196_40 (rw_istore (pc' := 42) (z := 0) (L' := [(4, vI 0), (3, vI 0), (2, vI z2181), (1, vI z2140), (0, .ref r0)]) rfl rfl rfl ?_)
            have k2337 : H2175 rp 4 = H rp 4 := ((f2180 rp 4 _ grp rfl).trans ((f2162 rp 4 _ grp rfl).trans ((f2139 rp 4 _ grp rfl).trans (f2119 rp 4 _ grp rfl))))
            have lp2332 : ∀ (n2333 : Nat) (v2335 : Int) (v2336 : Int), (0 ≤ v2335 ∧ v2335 ≤ 3) → (0 ≤ v2336 ∧ v2336 ≤ 1) → (v2336 = xgg d z2140 z2181 v2335) → (v2335 ≤ d 0 4) → (3 - v2335).toNat = n2333 → wp kt 5 196 42 [(4, vI v2335), (3, vI v2336), (2, vI z2181), (1, vI z2140), (0, .ref r0)] [] T H2175 (uq_196_k r0 rp rb B n q d N0 H0 T H) := by
              intro n2333
              induction n2333 using Nat.strongRecOn with
              | _ n2333 ih2334 =>
                intro v2335 v2336 b2340 b2341 x2342 x2343 m2344
                refine wp_of e196 c196_42 (rw_iload (pc' := 44) (z := v2335) rfl rfl ?_)
                refine wp_of e196 c196_44 (rw_aload_n (pc' := 45) (v := .ref r0) rfl rfl rfl ?_)
                have k2345 : H2175 r0 4 = H2157 r0 4 := (f2180 r0 4 _ g0 rfl)
                have q2346 : H2175 r0 4 = (rp : Int) := k2345.trans q2171
                refine wp_of e196 c196_45 (xg_K (pc' := 48) lf_9_166 w2179 g0 sh_42 (by decide) (by decide) rfl q2346 rfl ?_)
                refine wp_of e196 c196_48 (xg_I (pc' := 51) lf_9_276 w2179 grp sh_54 (by decide) (by decide) ty_54_4 rfl rfl (fun b2347 b2348 => ?_))
                refine wp_of e196 c196_51 (rw_icmp_ge (p1 := 126) (p2 := 54) (by decide) rfl ⟨Int.le_trans (by decide) b2340.1, Int.le_trans b2340.2 (by decide)⟩ ⟨Int.le_trans (by decide) b2347, Int.le_trans b2348 (by decide)⟩ (fun c2349 => ?_) (fun c2349 => ?_))
                · have _g := @xac_g d z2140 z2181 v2335 (by omega)
                  have _c : xac d (xwho B n (xN B n q) d) (xwho B n (xN B n (xN B n (xN B n q))) d) = xac d z2140 z2181 := by rw [show xwho B n (xN B n q) d = z2140 by omega, show xwho B n (xN B n (xN B n (xN B n q))) d = z2181 by omega]
                  refine wp_of e196 c196_126 (rw_iload_n (pc' := 127) (z := v2336) rfl rfl ?_)
                  refine wp_of e196 c196_127 (rw_if_eq (p1 := 135) (p2 := 130) (by decide) rfl ⟨Int.le_trans (by decide) b2341.1, Int.le_trans b2341.2 (by decide)⟩ (fun c2350 => ?_) (fun c2350 => ?_))
                  · refine wp_of e196 c196_135 (rw_aload_n (pc' := 136) (v := .ref r0) rfl rfl rfl ?_)
                    have k2351 : H2175 r0 5 = H2134 r0 5 := ((f2180 r0 5 _ g0 rfl).trans (f2162 r0 5 _ g0 rfl))
                    have q2352 : H2175 r0 5 = (rb : Int) := k2351.trans q2154
                    have u2353 := RC_a a2189
                    have h2354 : TM T H2175 rb B := RC_tm a2189 q2352
                    refine wp_of e196 c196_136 (xc_V (pc' := 139) (r := r0) (as := []) (st := []) (lm_9_118) rfl rfl (Nat.le_of_ble_eq_true rfl) w2179 g0 sh_42 (by decide) rfl (by decide) (u_172_k (B := B) (n := n) (a := (xE B n ((xN B n ((xN B n ((xN B n q)))))))) (q := (xN B n ((xN B n ((xN B n ((xN B n q)))))))) w2179 g0 q2352 grb (by omega) (by omega) (by omega) (by omega) (by omega) (rfl) h2354) (fun R2355 T2356 H2357 p2358 => ?_))
                    obtain ⟨e2359, w2361, f2362, e2360, p2363⟩ := p2358
                    subst e2359
                    subst e2360
                    have f2365 := f2193.tr f2362 rfl
                    show wp _ _ 196 139 [(4, vI v2335), (3, vI v2336), (2, vI z2181), (1, vI z2140), (0, .ref r0)] [] _ H2357 _
                    have u2366 := RC_k p2363
                    refine wp_of e196 c196_139 (rw_aload_n (pc' := 140) (v := .ref r0) rfl rfl rfl ?_)
                    refine wp_of e196 c196_140 (xg_I (pc' := 143) lf_9_75 w2361 g0 sh_42 (by decide) (by decide) ty_42_9 rfl rfl (fun b2367 b2368 => ?_))
                    refine wp_of e196 c196_143 (rw_iconst (pc' := 144) rfl ?_)
                    refine wp_of e196 c196_144 (rw_icmp_ne (p1 := 148) (p2 := 147) (by decide) rfl ⟨Int.le_trans (by decide) b2367, Int.le_trans b2368 (by decide)⟩ ⟨by decide, by decide⟩ (fun c2369 => ?_) (fun c2369 => ?_))
                    · refine wp_of e196 c196_148 (rw_aload_n (pc' := 149) (v := .ref r0) rfl rfl rfl ?_)
                      have k2370 : H2357 r0 4 = H2175 r0 4 := (f2362 r0 4 _ g0 rfl)
                      have q2371 : H2357 r0 4 = (rp : Int) := k2370.trans q2346
                      refine wp_of e196 c196_149 (xg_K (pc' := 152) lf_9_166 w2361 g0 sh_42 (by decide) (by decide) rfl q2371 rfl ?_)
                      refine wp_of e196 c196_152 (xg_R (pc' := 155) lf_9_282 w2361 grp sh_54 (by decide) (by decide) ty_54_18 rfl rfl (fun r2372 q2373 g2374 => ?_))
                      refine wp_of e196 c196_155 (rw_aload_n (pc' := 156) (v := .ref r0) rfl rfl rfl ?_)
                      refine wp_of e196 c196_156 (xg_K (pc' := 159) lf_9_166 w2361 g0 sh_42 (by decide) (by decide) rfl q2371 rfl ?_)
                      have k2375 : H2357 rp 4 = H2175 rp 4 := (f2362 rp 4 _ grp rfl)
                      refine wp_of e196 c196_159 (xg_I (pc' := 162) lf_9_276 w2361 grp sh_54 (by decide) (by decide) ty_54_4 rfl rfl (fun b2376 b2377 => ?_))
                      refine wp_of e196 c196_162 (rw_iload_n (pc' := 163) (z := z2140) rfl rfl ?_)
                      have h2378 : MA18 T H2357 rp (d 10) := (MA18_fr w2179 grp f2362 rfl (MA18_fr w2161 grp f2180 rfl (MA18_fr w2138 grp f2162 rfl (MA18_fr w2118 grp f2139 rfl (MA18_fr hW grp f2119 rfl h2102)))))
                      have h2379 : FZ T H2357 rp N0 H0 := (FZ_fr w2179 grp f2362 rfl (FZ_fr w2161 grp f2180 rfl (FZ_fr w2138 grp f2162 rfl (FZ_fr w2118 grp f2139 rfl (FZ_fr hW grp f2119 rfl hFZ_rp)))))
                      refine wp_of e196 c196_163 (xs_I (pc' := 164) w2361 g2374 (by decide) sh_64 (by decide) (ty_64 _) (b2141.1) (b2141.2) ⟨Int.le_trans (by decide) b2141.1, Int.le_trans b2141.2 (by decide)⟩ (b2376) (by omega) rfl (fun H2380 e2381 w2382 => ?_))
                      have f2383 := f2365.put' e2381 g2374 rfl
                      have h2384 : MA18 T H2380 rp (xdap B n (xN B n q) d 10) := MA_put h2378 q2373 grp g2374 (by decide) e2381 ((xdap_c (k := ((H2357 rp 4).toNat)) (by omega)).1.trans (by omega)) (xdap_c (k := ((H2357 rp 4).toNat)) (by omega)).2
                      have h2385 : FZ T H2380 rp N0 H0 := FZ_st h2379 q2373 (by decide) (by decide) grp g2374 (by decide) e2381
                      refine wp_of e196 c196_164 (rw_aload_n (pc' := 165) (v := .ref r0) rfl rfl rfl ?_)
                      have k2386 : H2380 r0 4 = H2357 r0 4 := (wq_u_t e2381 g2374 g0 rfl 4)
                      have q2387 : H2380 r0 4 = (rp : Int) := k2386.trans q2371
                      refine wp_of e196 c196_165 (xg_K (pc' := 168) lf_9_166 w2382 g0 sh_42 (by decide) (by decide) rfl q2387 rfl ?_)
                      refine wp_of e196 c196_168 (xg_R (pc' := 171) lf_9_285 w2382 grp sh_54 (by decide) (by decide) ty_54_19 rfl rfl (fun r2388 q2389 g2390 => ?_))
                      refine wp_of e196 c196_171 (rw_aload_n (pc' := 172) (v := .ref r0) rfl rfl rfl ?_)
                      refine wp_of e196 c196_172 (xg_K (pc' := 175) lf_9_166 w2382 g0 sh_42 (by decide) (by decide) rfl q2387 rfl ?_)
                      have k2391 : H2380 rp 4 = H2357 rp 4 := (wq_u_t e2381 g2374 grp rfl 4)
                      refine wp_of e196 c196_175 (xg_I (pc' := 178) lf_9_276 w2382 grp sh_54 (by decide) (by decide) ty_54_4 rfl rfl (fun b2392 b2393 => ?_))
                      refine wp_of e196 c196_178 (rw_iload_n (pc' := 179) (z := z2181) rfl rfl ?_)
                      have h2394 : MA19 T H2380 rp (d 11) := (MA19_fr w2361 grp ((wfr.rf (l := [(64, 999)])).put' e2381 g2374 rfl) rfl (MA19_fr w2179 grp f2362 rfl (MA19_fr w2161 grp f2180 rfl (MA19_fr w2138 grp f2162 rfl (MA19_fr w2118 grp f2139 rfl (MA19_fr hW grp f2119 rfl h2103))))))
                      refine wp_of e196 c196_179 (xs_I (pc' := 180) w2382 g2390 (by decide) sh_65 (by decide) (ty_65 _) (b2182.1) (b2182.2) ⟨Int.le_trans (by decide) b2182.1, Int.le_trans b2182.2 (by decide)⟩ (b2392) (by omega) rfl (fun H2395 e2396 w2397 => ?_))
                      have f2398 := f2383.put' e2396 g2390 rfl
                      have h2399 : MA19 T H2395 rp (xdap B n (xN B n q) d 11) := MA_put h2394 q2389 grp g2390 (by decide) e2396 ((xdap_e (k := ((H2380 rp 4).toNat)) (by omega)).1.trans (by omega)) (xdap_e (k := ((H2380 rp 4).toNat)) (by omega)).2
                      have h2400 : FZ T H2395 rp N0 H0 := FZ_st h2385 q2389 (by decide) (by decide) grp g2390 (by decide) e2396
                      refine wp_of e196 c196_180 (rw_aload_n (pc' := 181) (v := .ref r0) rfl rfl rfl ?_)
                      have k2401 : H2395 r0 4 = H2380 r0 4 := (wq_u_t e2396 g2390 g0 rfl 4)
                      have q2402 : H2395 r0 4 = (rp : Int) := k2401.trans q2387
                      refine wp_of e196 c196_181 (xg_K (pc' := 184) lf_9_166 w2397 g0 sh_42 (by decide) (by decide) rfl q2402 rfl ?_)
                      refine wp_of e196 c196_184 (rw_dup (pc' := 185) rfl rfl ?_)
                      have k2403 : H2395 rp 4 = H2380 rp 4 := (wq_u_t e2396 g2390 grp rfl 4)
                      refine wp_of e196 c196_185 (xg_I (pc' := 188) lf_9_276 w2397 grp sh_54 (by decide) (by decide) ty_54_4 rfl rfl (fun b2404 b2405 => ?_))
                      refine wp_of e196 c196_188 (rw_iconst (pc' := 189) rfl ?_)
                      refine wp_of e196 c196_189 (rw_iadd (pc' := 190) rfl ?_)
                      refine wp_of e196 c196_190 (xp_I (pc' := 193) lf_9_276 w2397 grp sh_54 (by decide) (by decide) ty_54_4 rfl rfl (by omega) (by omega) ⟨by omega, by omega⟩ rfl (fun H2406 e2407 w2408 => ?_))
                      have f2409 := f2398.put' e2407 grp rfl
                      have k2410 : H2406 rp 4 = (H2395 rp 4) + 1 := wq_u_s e2407
                      have h2411 : FZ T H2406 rp N0 H0 := FZ_put h2400 (by decide) e2407
                      have k2412 : H2406 rp 0 = H rp 0 := ((wq_u_j e2407 rfl).trans ((wq_u_t e2396 g2390 grp rfl 0).trans ((wq_u_t e2381 g2374 grp rfl 0).trans ((f2362 rp 0 _ grp rfl).trans ((f2180 rp 0 _ grp rfl).trans ((f2162 rp 0 _ grp rfl).trans ((f2139 rp 0 _ grp rfl).trans (f2119 rp 0 _ grp rfl))))))))
                      have k2413 : H2406 rp 1 = H rp 1 := ((wq_u_j e2407 rfl).trans ((wq_u_t e2396 g2390 grp rfl 1).trans ((wq_u_t e2381 g2374 grp rfl 1).trans ((f2362 rp 1 _ grp rfl).trans ((f2180 rp 1 _ grp rfl).trans ((f2162 rp 1 _ grp rfl).trans ((f2139 rp 1 _ grp rfl).trans (f2119 rp 1 _ grp rfl))))))))
                      have k2414 : H2406 rp 2 = H rp 2 := ((wq_u_j e2407 rfl).trans ((wq_u_t e2396 g2390 grp rfl 2).trans ((wq_u_t e2381 g2374 grp rfl 2).trans ((f2362 rp 2 _ grp rfl).trans ((f2180 rp 2 _ grp rfl).trans ((f2162 rp 2 _ grp rfl).trans ((f2139 rp 2 _ grp rfl).trans (f2119 rp 2 _ grp rfl))))))))
                      have k2415 : H2406 rp 3 = H rp 3 := ((wq_u_j e2407 rfl).trans ((wq_u_t e2396 g2390 grp rfl 3).trans ((wq_u_t e2381 g2374 grp rfl 3).trans ((f2362 rp 3 _ grp rfl).trans ((f2180 rp 3 _ grp rfl).trans ((f2162 rp 3 _ grp rfl).trans ((f2139 rp 3 _ grp rfl).trans (f2119 rp 3 _ grp rfl))))))))
                      have k2416 : H2406 rp 5 = H rp 5 := ((wq_u_j e2407 rfl).trans ((wq_u_t e2396 g2390 grp rfl 5).trans ((wq_u_t e2381 g2374 grp rfl 5).trans ((f2362 rp 5 _ grp rfl).trans ((f2180 rp 5 _ grp rfl).trans ((f2162 rp 5 _ grp rfl).trans ((f2139 rp 5 _ grp rfl).trans (f2119 rp 5 _ grp rfl))))))))
                      have k2417 : H2406 rp 6 = H rp 6 := ((wq_u_j e2407 rfl).trans ((wq_u_t e2396 g2390 grp rfl 6).trans ((wq_u_t e2381 g2374 grp rfl 6).trans ((f2362 rp 6 _ grp rfl).trans ((f2180 rp 6 _ grp rfl).trans ((f2162 rp 6 _ grp rfl).trans ((f2139 rp 6 _ grp rfl).trans (f2119 rp 6 _ grp rfl))))))))
                      have k2418 : H2406 rp 7 = H rp 7 := ((wq_u_j e2407 rfl).trans ((wq_u_t e2396 g2390 grp rfl 7).trans ((wq_u_t e2381 g2374 grp rfl 7).trans ((f2362 rp 7 _ grp rfl).trans ((f2180 rp 7 _ grp rfl).trans ((f2162 rp 7 _ grp rfl).trans ((f2139 rp 7 _ grp rfl).trans (f2119 rp 7 _ grp rfl))))))))
                      have k2419 : H2406 rp 8 = H rp 8 := ((wq_u_j e2407 rfl).trans ((wq_u_t e2396 g2390 grp rfl 8).trans ((wq_u_t e2381 g2374 grp rfl 8).trans ((f2362 rp 8 _ grp rfl).trans ((f2180 rp 8 _ grp rfl).trans ((f2162 rp 8 _ grp rfl).trans ((f2139 rp 8 _ grp rfl).trans (f2119 rp 8 _ grp rfl))))))))
                      have k2420 : H2406 r0 16 = H r0 16 := ((wq_u_t e2407 grp g0 rfl 16).trans ((wq_u_t e2396 g2390 g0 rfl 16).trans ((wq_u_t e2381 g2374 g0 rfl 16).trans ((f2362 r0 16 _ g0 rfl).trans ((f2180 r0 16 _ g0 rfl).trans ((f2162 r0 16 _ g0 rfl).trans ((f2139 r0 16 _ g0 rfl).trans (f2119 r0 16 _ g0 rfl))))))))
                      have o2421 : (xl3 B n q d) = (0, (xN B n q), (xN B n ((xN B n ((xN B n ((xN B n q)))))))) := by
                        unfold xl3 xap
                        repeat first | rw [xs_0 (by omega -splitDisjunctions)] | rw [xs_1 (by omega -splitDisjunctions)] | rw [if_pos (by omega -splitDisjunctions)] | rw [if_neg (by omega -splitDisjunctions)] | rw [xs_0 (by omega)] | rw [xs_1 (by omega)] | rw [if_pos (by omega)] | rw [if_neg (by omega)]
                        first | done | rfl | assumption | (exfalso; omega -splitDisjunctions) | (refine Prod.ext ?_ (Prod.ext ?_ ?_) <;> (try dsimp only) <;> omega) | (exfalso; omega)
                      have o2421a : ((xl3 B n q d)).1 = 0 := by rw [o2421]
                      have o2421b : ((xl3 B n q d)).2.1 = (xN B n q) := by rw [o2421]
                      have o2421c : ((xl3 B n q d)).2.2 = (xN B n ((xN B n ((xN B n ((xN B n q))))))) := by rw [o2421]
                      have _l := @xdap_v B n (xN B n q) d
                      have h2422 : RC T H2406 r0 B n (xN B n ((xN B n ((xN B n ((xN B n q))))))) := (RC_fr w2397 g0 ((wfr.rf (l := [(54, 4)])).put' e2407 grp rfl) rfl (RC_fr w2382 g0 ((wfr.rf (l := [(65, 999)])).put' e2396 g2390 rfl) rfl (RC_fr w2361 g0 ((wfr.rf (l := [(64, 999)])).put' e2381 g2374 rfl) rfl p2363)))
                      have h2423 : MA9 T H2406 rp (d 1) := (MA9_fr w2397 grp ((wfr.rf (l := [(54, 4)])).put' e2407 grp rfl) rfl (MA9_fr w2382 grp ((wfr.rf (l := [(65, 999)])).put' e2396 g2390 rfl) rfl (MA9_fr w2361 grp ((wfr.rf (l := [(64, 999)])).put' e2381 g2374 rfl) rfl (MA9_fr w2179 grp f2362 rfl (MA9_fr w2161 grp f2180 rfl (MA9_fr w2138 grp f2162 rfl (MA9_fr w2118 grp f2139 rfl (MA9_fr hW grp f2119 rfl h2093))))))))
                      have h2424 : MA10 T H2406 rp (d 2) := (MA10_fr w2397 grp ((wfr.rf (l := [(54, 4)])).put' e2407 grp rfl) rfl (MA10_fr w2382 grp ((wfr.rf (l := [(65, 999)])).put' e2396 g2390 rfl) rfl (MA10_fr w2361 grp ((wfr.rf (l := [(64, 999)])).put' e2381 g2374 rfl) rfl (MA10_fr w2179 grp f2362 rfl (MA10_fr w2161 grp f2180 rfl (MA10_fr w2138 grp f2162 rfl (MA10_fr w2118 grp f2139 rfl (MA10_fr hW grp f2119 rfl h2094))))))))
                      have h2425 : MA11 T H2406 rp (d 3) := (MA11_fr w2397 grp ((wfr.rf (l := [(54, 4)])).put' e2407 grp rfl) rfl (MA11_fr w2382 grp ((wfr.rf (l := [(65, 999)])).put' e2396 g2390 rfl) rfl (MA11_fr w2361 grp ((wfr.rf (l := [(64, 999)])).put' e2381 g2374 rfl) rfl (MA11_fr w2179 grp f2362 rfl (MA11_fr w2161 grp f2180 rfl (MA11_fr w2138 grp f2162 rfl (MA11_fr w2118 grp f2139 rfl (MA11_fr hW grp f2119 rfl h2095))))))))
                      have h2426 : MA12 T H2406 rp (d 4) := (MA12_fr w2397 grp ((wfr.rf (l := [(54, 4)])).put' e2407 grp rfl) rfl (MA12_fr w2382 grp ((wfr.rf (l := [(65, 999)])).put' e2396 g2390 rfl) rfl (MA12_fr w2361 grp ((wfr.rf (l := [(64, 999)])).put' e2381 g2374 rfl) rfl (MA12_fr w2179 grp f2362 rfl (MA12_fr w2161 grp f2180 rfl (MA12_fr w2138 grp f2162 rfl (MA12_fr w2118 grp f2139 rfl (MA12_fr hW grp f2119 rfl h2096))))))))
                      have h2427 : MA13 T H2406 rp (d 5) := (MA13_fr w2397 grp ((wfr.rf (l := [(54, 4)])).put' e2407 grp rfl) rfl (MA13_fr w2382 grp ((wfr.rf (l := [(65, 999)])).put' e2396 g2390 rfl) rfl (MA13_fr w2361 grp ((wfr.rf (l := [(64, 999)])).put' e2381 g2374 rfl) rfl (MA13_fr w2179 grp f2362 rfl (MA13_fr w2161 grp f2180 rfl (MA13_fr w2138 grp f2162 rfl (MA13_fr w2118 grp f2139 rfl (MA13_fr hW grp f2119 rfl h2097))))))))
                      have h2428 : MA14 T H2406 rp (d 6) := (MA14_fr w2397 grp ((wfr.rf (l := [(54, 4)])).put' e2407 grp rfl) rfl (MA14_fr w2382 grp ((wfr.rf (l := [(65, 999)])).put' e2396 g2390 rfl) rfl (MA14_fr w2361 grp ((wfr.rf (l := [(64, 999)])).put' e2381 g2374 rfl) rfl (MA14_fr w2179 grp f2362 rfl (MA14_fr w2161 grp f2180 rfl (MA14_fr w2138 grp f2162 rfl (MA14_fr w2118 grp f2139 rfl (MA14_fr hW grp f2119 rfl h2098))))))))
                      have h2429 : MA15 T H2406 rp (d 7) := (MA15_fr w2397 grp ((wfr.rf (l := [(54, 4)])).put' e2407 grp rfl) rfl (MA15_fr w2382 grp ((wfr.rf (l := [(65, 999)])).put' e2396 g2390 rfl) rfl (MA15_fr w2361 grp ((wfr.rf (l := [(64, 999)])).put' e2381 g2374 rfl) rfl (MA15_fr w2179 grp f2362 rfl (MA15_fr w2161 grp f2180 rfl (MA15_fr w2138 grp f2162 rfl (MA15_fr w2118 grp f2139 rfl (MA15_fr hW grp f2119 rfl h2099))))))))
                      have h2430 : MA16 T H2406 rp (d 8) := (MA16_fr w2397 grp ((wfr.rf (l := [(54, 4)])).put' e2407 grp rfl) rfl (MA16_fr w2382 grp ((wfr.rf (l := [(65, 999)])).put' e2396 g2390 rfl) rfl (MA16_fr w2361 grp ((wfr.rf (l := [(64, 999)])).put' e2381 g2374 rfl) rfl (MA16_fr w2179 grp f2362 rfl (MA16_fr w2161 grp f2180 rfl (MA16_fr w2138 grp f2162 rfl (MA16_fr w2118 grp f2139 rfl (MA16_fr hW grp f2119 rfl h2100))))))))
                      have h2431 : MA17 T H2406 rp (d 9) := (MA17_fr w2397 grp ((wfr.rf (l := [(54, 4)])).put' e2407 grp rfl) rfl (MA17_fr w2382 grp ((wfr.rf (l := [(65, 999)])).put' e2396 g2390 rfl) rfl (MA17_fr w2361 grp ((wfr.rf (l := [(64, 999)])).put' e2381 g2374 rfl) rfl (MA17_fr w2179 grp f2362 rfl (MA17_fr w2161 grp f2180 rfl (MA17_fr w2138 grp f2162 rfl (MA17_fr w2118 grp f2139 rfl (MA17_fr hW grp f2119 rfl h2101))))))))
                      have h2432 : MA18 T H2406 rp (xdap B n (xN B n q) d 10) := (MA18_fr w2397 grp ((wfr.rf (l := [(54, 4)])).put' e2407 grp rfl) rfl (MA18_fr w2382 grp ((wfr.rf (l := [(65, 999)])).put' e2396 g2390 rfl) rfl h2384))
                      have h2433 : MA19 T H2406 rp (xdap B n (xN B n q) d 11) := (MA19_fr w2397 grp ((wfr.rf (l := [(54, 4)])).put' e2407 grp rfl) rfl h2399)
                      have h2434 : MA20 T H2406 rp (d 12) := (MA20_fr w2397 grp ((wfr.rf (l := [(54, 4)])).put' e2407 grp rfl) rfl (MA20_fr w2382 grp ((wfr.rf (l := [(65, 999)])).put' e2396 g2390 rfl) rfl (MA20_fr w2361 grp ((wfr.rf (l := [(64, 999)])).put' e2381 g2374 rfl) rfl (MA20_fr w2179 grp f2362 rfl (MA20_fr w2161 grp f2180 rfl (MA20_fr w2138 grp f2162 rfl (MA20_fr w2118 grp f2139 rfl (MA20_fr hW grp f2119 rfl h2104))))))))
                      have h2435 : MA21 T H2406 rp (d 13) := (MA21_fr w2397 grp ((wfr.rf (l := [(54, 4)])).put' e2407 grp rfl) rfl (MA21_fr w2382 grp ((wfr.rf (l := [(65, 999)])).put' e2396 g2390 rfl) rfl (MA21_fr w2361 grp ((wfr.rf (l := [(64, 999)])).put' e2381 g2374 rfl) rfl (MA21_fr w2179 grp f2362 rfl (MA21_fr w2161 grp f2180 rfl (MA21_fr w2138 grp f2162 rfl (MA21_fr w2118 grp f2139 rfl (MA21_fr hW grp f2119 rfl h2105))))))))
                      have h2436 : MA22 T H2406 rp (d 14) := (MA22_fr w2397 grp ((wfr.rf (l := [(54, 4)])).put' e2407 grp rfl) rfl (MA22_fr w2382 grp ((wfr.rf (l := [(65, 999)])).put' e2396 g2390 rfl) rfl (MA22_fr w2361 grp ((wfr.rf (l := [(64, 999)])).put' e2381 g2374 rfl) rfl (MA22_fr w2179 grp f2362 rfl (MA22_fr w2161 grp f2180 rfl (MA22_fr w2138 grp f2162 rfl (MA22_fr w2118 grp f2139 rfl (MA22_fr hW grp f2119 rfl h2106))))))))
                      have h2437 : MA23 T H2406 rp (d 15) := (MA23_fr w2397 grp ((wfr.rf (l := [(54, 4)])).put' e2407 grp rfl) rfl (MA23_fr w2382 grp ((wfr.rf (l := [(65, 999)])).put' e2396 g2390 rfl) rfl (MA23_fr w2361 grp ((wfr.rf (l := [(64, 999)])).put' e2381 g2374 rfl) rfl (MA23_fr w2179 grp f2362 rfl (MA23_fr w2161 grp f2180 rfl (MA23_fr w2138 grp f2162 rfl (MA23_fr w2118 grp f2139 rfl (MA23_fr hW grp f2119 rfl h2107))))))))
                      have h2438 : MA25 T H2406 rp (d 17) := (MA25_fr w2397 grp ((wfr.rf (l := [(54, 4)])).put' e2407 grp rfl) rfl (MA25_fr w2382 grp ((wfr.rf (l := [(65, 999)])).put' e2396 g2390 rfl) rfl (MA25_fr w2361 grp ((wfr.rf (l := [(64, 999)])).put' e2381 g2374 rfl) rfl (MA25_fr w2179 grp f2362 rfl (MA25_fr w2161 grp f2180 rfl (MA25_fr w2138 grp f2162 rfl (MA25_fr w2118 grp f2139 rfl (MA25_fr hW grp f2119 rfl h2108))))))))
                      have h2439 : MA26 T H2406 rp (d 16) := (MA26_fr w2397 grp ((wfr.rf (l := [(54, 4)])).put' e2407 grp rfl) rfl (MA26_fr w2382 grp ((wfr.rf (l := [(65, 999)])).put' e2396 g2390 rfl) rfl (MA26_fr w2361 grp ((wfr.rf (l := [(64, 999)])).put' e2381 g2374 rfl) rfl (MA26_fr w2179 grp f2362 rfl (MA26_fr w2161 grp f2180 rfl (MA26_fr w2138 grp f2162 rfl (MA26_fr w2118 grp f2139 rfl (MA26_fr hW grp f2119 rfl h2109))))))))
                      exact wp_return e196 c196_193 rfl ⟨rfl, w2408, f2409, rfl, (Or.inl ⟨by omega, by omega, by omega, h2422, DM_mk hDM_rp.1 ⟨by omega, by omega, by omega, by omega, by omega, by omega, by omega, by omega, by omega, by omega, by omega, by omega⟩ (xdP_cg hDM_rp.2.2.1 (fun i h1 h2 => by unfold xdap; rw [wq_u_row (by omega), wq_u_row (by omega), wq_u_row (by omega)])) h2423 h2424 h2425 h2426 h2427 h2428 h2429 h2430 h2431 h2432 h2433 h2434 h2435 h2436 h2437 h2438 h2439 ⟨(by unfold xdap; rw [wq_u_row (by decide), wq_u_row (by decide), wq_u_row (by decide)]), (by unfold xdap; rw [wq_u_row (by decide), wq_u_row (by decide), wq_u_row (by decide)]), (by unfold xdap; rw [wq_u_row (by decide), wq_u_row (by decide), wq_u_row (by decide)]), (by unfold xdap; rw [wq_u_row (by decide), wq_u_row (by decide), wq_u_row (by decide)]), (by unfold xdap; rw [wq_u_row (by decide), wq_u_row (by decide), wq_u_row (by decide)]), (by unfold xdap; rw [wq_u_row (by decide), wq_u_row (by decide), wq_u_row (by decide)]), (by unfold xdap; rw [wq_u_row (by decide), wq_u_row (by decide), wq_u_row (by decide)]), (by unfold xdap; rw [wq_u_row (by decide), wq_u_row (by decide), wq_u_row (by decide)]), (by unfold xdap; rw [wq_u_row (by decide), wq_u_row (by decide), wq_u_row (by decide)]), rfl, rfl, (by unfold xdap; rw [wq_u_row (by decide), wq_u_row (by decide), wq_u_row (by decide)]), (by unfold xdap; rw [wq_u_row (by decide), wq_u_row (by decide), wq_u_row (by decide)]), (by unfold xdap; rw [wq_u_row (by decide), wq_u_row (by decide), wq_u_row (by decide)]), (by unfold xdap; rw [wq_u_row (by decide), wq_u_row (by decide), wq_u_row (by decide)]), (by unfold xdap; rw [wq_u_row (by decide), wq_u_row (by decide), wq_u_row (by decide)]), (by unfold xdap; rw [wq_u_row (by decide), wq_u_row (by decide), wq_u_row (by decide)])⟩, h2411⟩)⟩
                    · exfalso
                      omega
                  · refine wp_of e196 c196_130 (rw_aload_n (pc' := 131) (v := .ref r0) rfl rfl rfl ?_)
                    refine wp_of e196 c196_131 (rw_iconst (pc' := 132) rfl ?_)
                    refine wp_of e196 c196_132 (xc_V (pc' := 135) (r := r0) (as := [vI 3]) (st := []) (lm_9_121) rfl rfl (Nat.le_of_ble_eq_true rfl) w2179 g0 sh_42 (by decide) rfl (by decide) (u_181_k (B := B) (n := n) (q := ((xN B n ((xN B n ((xN B n q))))))) w2179 g0 ⟨by decide, by decide⟩ (by omega) a2189) (fun R2440 T2441 H2442 p2443 => ?_))
                    obtain ⟨e2444, w2446, f2447, e2445, p2448⟩ := p2443
                    subst e2444
                    subst e2445
                    have f2450 := f2193.tr f2447 rfl
                    show wp _ _ 196 135 [(4, vI v2335), (3, vI v2336), (2, vI z2181), (1, vI z2140), (0, .ref r0)] [] _ H2442 _
                    have u2451 := RO_k p2448
                    refine wp_of e196 c196_135 (rw_aload_n (pc' := 136) (v := .ref r0) rfl rfl rfl ?_)
                    refine wp_of e196 c196_136 (xc_V (pc' := 139) (r := r0) (as := []) (st := []) (lm_9_118) rfl rfl (Nat.le_of_ble_eq_true rfl) w2446 g0 sh_42 (by decide) rfl (by decide) (u_172_o (fo := 3) (po := (((xN B n ((xN B n ((xN B n q)))))))) w2446 g0 p2448) (fun R2452 T2453 H2454 p2455 => ?_))
                    obtain ⟨e2456, e2458, e2457, p2459⟩ := p2455
                    subst e2456
                    subst e2457
                    subst e2458
                    show wp _ _ 196 139 [(4, vI v2335), (3, vI v2336), (2, vI z2181), (1, vI z2140), (0, .ref r0)] [] _ H2442 _
                    have u2461 := RO_k p2459
                    refine wp_of e196 c196_139 (rw_aload_n (pc' := 140) (v := .ref r0) rfl rfl rfl ?_)
                    refine wp_of e196 c196_140 (xg_I (pc' := 143) lf_9_75 w2446 g0 sh_42 (by decide) (by decide) ty_42_9 rfl rfl (fun b2462 b2463 => ?_))
                    refine wp_of e196 c196_143 (rw_iconst (pc' := 144) rfl ?_)
                    refine wp_of e196 c196_144 (rw_icmp_ne (p1 := 148) (p2 := 147) (by decide) rfl ⟨Int.le_trans (by decide) b2462, Int.le_trans b2463 (by decide)⟩ ⟨by decide, by decide⟩ (fun c2464 => ?_) (fun c2464 => ?_))
                    · exfalso
                      omega
                    · have o2465 : (xl3 B n q d) = (xac d (xwho B n (xN B n q) d) (xwho B n (xN B n (xN B n (xN B n q))) d), (xN B n (xN B n (xN B n q))), (xN B n (xN B n (xN B n q)))) := by
                        unfold xl3 xap
                        repeat first | rw [xs_0 (by omega -splitDisjunctions)] | rw [xs_1 (by omega -splitDisjunctions)] | rw [if_pos (by omega -splitDisjunctions)] | rw [if_neg (by omega -splitDisjunctions)] | rw [xs_0 (by omega)] | rw [xs_1 (by omega)] | rw [if_pos (by omega)] | rw [if_neg (by omega)]
                        first | done | rfl | assumption | (exfalso; omega -splitDisjunctions) | (refine Prod.ext ?_ (Prod.ext ?_ ?_) <;> (try dsimp only) <;> omega) | (exfalso; omega)
                      have o2465a : ((xl3 B n q d)).1 = xac d (xwho B n (xN B n q) d) (xwho B n (xN B n (xN B n (xN B n q))) d) := by rw [o2465]
                      have o2465b : ((xl3 B n q d)).2.1 = (xN B n (xN B n (xN B n q))) := by rw [o2465]
                      have o2465c : ((xl3 B n q d)).2.2 = (xN B n (xN B n (xN B n q))) := by rw [o2465]
                      have h2466 : FZ T H2442 rp N0 H0 := (FZ_fr w2179 grp f2447 rfl (FZ_fr w2161 grp f2180 rfl (FZ_fr w2138 grp f2162 rfl (FZ_fr w2118 grp f2139 rfl (FZ_fr hW grp f2119 rfl hFZ_rp)))))
                      exact wp_return e196 c196_147 rfl ⟨rfl, w2446, f2450, rfl, (Or.inr ⟨by omega, RO_eq p2459 (by omega) (by omega), h2466⟩)⟩
                · refine wp_of e196 c196_54 (rw_iload_n (pc' := 55) (z := v2336) rfl rfl ?_)
                  refine wp_of e196 c196_55 (rw_if_ne (p1 := 114) (p2 := 58) (by decide) rfl ⟨Int.le_trans (by decide) b2341.1, Int.le_trans b2341.2 (by decide)⟩ (fun c2467 => ?_) (fun c2467 => ?_))
                  · refine wp_of e196 c196_114 (rw_iconst (pc' := 115) rfl ?_)
                    refine wp_of e196 c196_115 (rw_goto (p1 := 119) (by decide) ?_)
                    refine wp_of e196 c196_119 (rw_istore_n (pc' := 120) (z := 1) (L' := [(3, vI 1), (4, vI v2335), (2, vI z2181), (1, vI z2140), (0, .ref r0)]) rfl rfl rfl ?_)
                    refine wp_of e196 c196_120 (rw_iinc (pc' := 123) (z := v2335) (L' := [(4, vI (v2335 + 1)), (3, vI 1), (2, vI z2181), (1, vI z2140), (0, .ref r0)]) rfl rfl rfl rfl ?_)
                    refine wp_of e196 c196_123 (rw_goto (p1 := 42) (by decide) ?_)
                    have := xgg_s (d := d) (a := z2140) (b := z2181) (i := v2335) (by omega)
                    exact wp_lc (ks := [4, 3, 2, 1, 0]) (wl_c rfl (wl_c rfl (wl_c rfl (wl_c rfl (wl_c rfl wl_n))))) rfl (by decide) (ih2334 _ (by omega) (v2335 + 1) 1 ⟨by omega, by omega⟩ ⟨by decide, by decide⟩ (by omega) (by omega) rfl)
                  · refine wp_of e196 c196_58 (rw_aload_n (pc' := 59) (v := .ref r0) rfl rfl rfl ?_)
                    refine wp_of e196 c196_59 (xg_K (pc' := 62) lf_9_166 w2179 g0 sh_42 (by decide) (by decide) rfl q2346 rfl ?_)
                    refine wp_of e196 c196_62 (xg_R (pc' := 65) lf_9_282 w2179 grp sh_54 (by decide) (by decide) ty_54_18 rfl rfl (fun r2468 q2469 g2470 => ?_))
                    refine wp_of e196 c196_65 (rw_iload (pc' := 67) (z := v2335) rfl rfl ?_)
                    refine wp_of e196 c196_67 (xa_I (so := 0) (pc' := 68) w2179 g2470 sh_64 (by decide) (ty_64 _) (b2340.1) (by omega) rfl (fun b2471 b2472 => ?_))
                    have h2473 : MA18 T H2175 rp (d 10) := (MA18_fr w2161 grp f2180 rfl (MA18_fr w2138 grp f2162 rfl (MA18_fr w2118 grp f2139 rfl (MA18_fr hW grp f2119 rfl h2102))))
                    have := MA_at h2473 q2469 (k := (v2335.toNat)) (by omega)
                    refine wp_of e196 c196_68 (rw_iload_n (pc' := 69) (z := z2140) rfl rfl ?_)
                    refine wp_of e196 c196_69 (rw_icmp_ne (p1 := 86) (p2 := 72) (by decide) rfl ⟨Int.le_trans (by decide) b2471, Int.le_trans b2472 (by decide)⟩ ⟨Int.le_trans (by decide) b2141.1, Int.le_trans b2141.2 (by decide)⟩ (fun c2474 => ?_) (fun c2474 => ?_))
                    · refine wp_of e196 c196_86 (rw_aload_n (pc' := 87) (v := .ref r0) rfl rfl rfl ?_)
                      refine wp_of e196 c196_87 (xg_K (pc' := 90) lf_9_166 w2179 g0 sh_42 (by decide) (by decide) rfl q2346 rfl ?_)
                      refine wp_of e196 c196_90 (xg_K (pc' := 93) lf_9_282 w2179 grp sh_54 (by decide) (by decide) rfl q2469 rfl ?_)
                      refine wp_of e196 c196_93 (rw_iload (pc' := 95) (z := v2335) rfl rfl ?_)
                      refine wp_of e196 c196_95 (xa_I (so := 0) (pc' := 96) w2179 g2470 sh_64 (by decide) (ty_64 _) (b2340.1) (by omega) rfl (fun b2475 b2476 => ?_))
                      have := MA_at h2473 q2469 (k := (v2335.toNat)) (by omega)
                      refine wp_of e196 c196_96 (rw_iload_n (pc' := 97) (z := z2181) rfl rfl ?_)
                      refine wp_of e196 c196_97 (rw_icmp_ne (p1 := 118) (p2 := 100) (by decide) rfl ⟨Int.le_trans (by decide) b2475, Int.le_trans b2476 (by decide)⟩ ⟨Int.le_trans (by decide) b2182.1, Int.le_trans b2182.2 (by decide)⟩ (fun c2477 => ?_) (fun c2477 => ?_))
                      · refine wp_of e196 c196_118 (rw_iconst (pc' := 119) rfl ?_)
                        refine wp_of e196 c196_119 (rw_istore_n (pc' := 120) (z := 0) (L' := [(3, vI 0), (4, vI v2335), (2, vI z2181), (1, vI z2140), (0, .ref r0)]) rfl rfl rfl ?_)
                        refine wp_of e196 c196_120 (rw_iinc (pc' := 123) (z := v2335) (L' := [(4, vI (v2335 + 1)), (3, vI 0), (2, vI z2181), (1, vI z2140), (0, .ref r0)]) rfl rfl rfl rfl ?_)
                        refine wp_of e196 c196_123 (rw_goto (p1 := 42) (by decide) ?_)
                        have := xgg_s (d := d) (a := z2140) (b := z2181) (i := v2335) (by omega)
                        exact wp_lc (ks := [4, 3, 2, 1, 0]) (wl_c rfl (wl_c rfl (wl_c rfl (wl_c rfl (wl_c rfl wl_n))))) rfl (by decide) (ih2334 _ (by omega) (v2335 + 1) 0 ⟨by omega, by omega⟩ ⟨by decide, by decide⟩ (by omega) (by omega) rfl)
                      · refine wp_of e196 c196_100 (rw_aload_n (pc' := 101) (v := .ref r0) rfl rfl rfl ?_)
                        refine wp_of e196 c196_101 (xg_K (pc' := 104) lf_9_166 w2179 g0 sh_42 (by decide) (by decide) rfl q2346 rfl ?_)
                        refine wp_of e196 c196_104 (xg_R (pc' := 107) lf_9_285 w2179 grp sh_54 (by decide) (by decide) ty_54_19 rfl rfl (fun r2478 q2479 g2480 => ?_))
                        refine wp_of e196 c196_107 (rw_iload (pc' := 109) (z := v2335) rfl rfl ?_)
                        refine wp_of e196 c196_109 (xa_I (so := 0) (pc' := 110) w2179 g2480 sh_65 (by decide) (ty_65 _) (b2340.1) (by omega) rfl (fun b2481 b2482 => ?_))
                        have h2483 : MA19 T H2175 rp (d 11) := (MA19_fr w2161 grp f2180 rfl (MA19_fr w2138 grp f2162 rfl (MA19_fr w2118 grp f2139 rfl (MA19_fr hW grp f2119 rfl h2103))))
                        have := MA_at h2483 q2479 (k := (v2335.toNat)) (by omega)
                        refine wp_of e196 c196_110 (rw_iload_n (pc' := 111) (z := z2140) rfl rfl ?_)
                        refine wp_of e196 c196_111 (rw_icmp_ne (p1 := 118) (p2 := 114) (by decide) rfl ⟨Int.le_trans (by decide) b2481, Int.le_trans b2482 (by decide)⟩ ⟨Int.le_trans (by decide) b2141.1, Int.le_trans b2141.2 (by decide)⟩ (fun c2484 => ?_) (fun c2484 => ?_))
                        · refine wp_of e196 c196_118 (rw_iconst (pc' := 119) rfl ?_)
                          refine wp_of e196 c196_119 (rw_istore_n (pc' := 120) (z := 0) (L' := [(3, vI 0), (4, vI v2335), (2, vI z2181), (1, vI z2140), (0, .ref r0)]) rfl rfl rfl ?_)
                          refine wp_of e196 c196_120 (rw_iinc (pc' := 123) (z := v2335) (L' := [(4, vI (v2335 + 1)), (3, vI 0), (2, vI z2181), (1, vI z2140), (0, .ref r0)]) rfl rfl rfl rfl ?_)
                          refine wp_of e196 c196_123 (rw_goto (p1 := 42) (by decide) ?_)
                          have := xgg_s (d := d) (a := z2140) (b := z2181) (i := v2335) (by omega)
                          exact wp_lc (ks := [4, 3, 2, 1, 0]) (wl_c rfl (wl_c rfl (wl_c rfl (wl_c rfl (wl_c rfl wl_n))))) rfl (by decide) (ih2334 _ (by omega) (v2335 + 1) 0 ⟨by omega, by omega⟩ ⟨by decide, by decide⟩ (by omega) (by omega) rfl)
                        · refine wp_of e196 c196_114 (rw_iconst (pc' := 115) rfl ?_)
                          refine wp_of e196 c196_115 (rw_goto (p1 := 119) (by decide) ?_)
                          refine wp_of e196 c196_119 (rw_istore_n (pc' := 120) (z := 1) (L' := [(3, vI 1), (4, vI v2335), (2, vI z2181), (1, vI z2140), (0, .ref r0)]) rfl rfl rfl ?_)
                          refine wp_of e196 c196_120 (rw_iinc (pc' := 123) (z := v2335) (L' := [(4, vI (v2335 + 1)), (3, vI 1), (2, vI z2181), (1, vI z2140), (0, .ref r0)]) rfl rfl rfl rfl ?_)
                          refine wp_of e196 c196_123 (rw_goto (p1 := 42) (by decide) ?_)
                          have := xgg_s (d := d) (a := z2140) (b := z2181) (i := v2335) (by omega)
                          exact wp_lc (ks := [4, 3, 2, 1, 0]) (wl_c rfl (wl_c rfl (wl_c rfl (wl_c rfl (wl_c rfl wl_n))))) rfl (by decide) (ih2334 _ (by omega) (v2335 + 1) 1 ⟨by omega, by omega⟩ ⟨by decide, by decide⟩ (by omega) (by omega) rfl)
                    · refine wp_of e196 c196_72 (rw_aload_n (pc' := 73) (v := .ref r0) rfl rfl rfl ?_)
                      refine wp_of e196 c196_73 (xg_K (pc' := 76) lf_9_166 w2179 g0 sh_42 (by decide) (by decide) rfl q2346 rfl ?_)
                      refine wp_of e196 c196_76 (xg_R (pc' := 79) lf_9_285 w2179 grp sh_54 (by decide) (by decide) ty_54_19 rfl rfl (fun r2485 q2486 g2487 => ?_))
                      refine wp_of e196 c196_79 (rw_iload (pc' := 81) (z := v2335) rfl rfl ?_)
                      refine wp_of e196 c196_81 (xa_I (so := 0) (pc' := 82) w2179 g2487 sh_65 (by decide) (ty_65 _) (b2340.1) (by omega) rfl (fun b2488 b2489 => ?_))
                      have h2490 : MA19 T H2175 rp (d 11) := (MA19_fr w2161 grp f2180 rfl (MA19_fr w2138 grp f2162 rfl (MA19_fr w2118 grp f2139 rfl (MA19_fr hW grp f2119 rfl h2103))))
                      have := MA_at h2490 q2486 (k := (v2335.toNat)) (by omega)
                      refine wp_of e196 c196_82 (rw_iload_n (pc' := 83) (z := z2181) rfl rfl ?_)
                      refine wp_of e196 c196_83 (rw_icmp_eq (p1 := 114) (p2 := 86) (by decide) rfl ⟨Int.le_trans (by decide) b2488, Int.le_trans b2489 (by decide)⟩ ⟨Int.le_trans (by decide) b2182.1, Int.le_trans b2182.2 (by decide)⟩ (fun c2491 => ?_) (fun c2491 => ?_))
                      · refine wp_of e196 c196_114 (rw_iconst (pc' := 115) rfl ?_)
                        refine wp_of e196 c196_115 (rw_goto (p1 := 119) (by decide) ?_)
                        refine wp_of e196 c196_119 (rw_istore_n (pc' := 120) (z := 1) (L' := [(3, vI 1), (4, vI v2335), (2, vI z2181), (1, vI z2140), (0, .ref r0)]) rfl rfl rfl ?_)
                        refine wp_of e196 c196_120 (rw_iinc (pc' := 123) (z := v2335) (L' := [(4, vI (v2335 + 1)), (3, vI 1), (2, vI z2181), (1, vI z2140), (0, .ref r0)]) rfl rfl rfl rfl ?_)
                        refine wp_of e196 c196_123 (rw_goto (p1 := 42) (by decide) ?_)
                        have := xgg_s (d := d) (a := z2140) (b := z2181) (i := v2335) (by omega)
                        exact wp_lc (ks := [4, 3, 2, 1, 0]) (wl_c rfl (wl_c rfl (wl_c rfl (wl_c rfl (wl_c rfl wl_n))))) rfl (by decide) (ih2334 _ (by omega) (v2335 + 1) 1 ⟨by omega, by omega⟩ ⟨by decide, by decide⟩ (by omega) (by omega) rfl)
                      · refine wp_of e196 c196_86 (rw_aload_n (pc' := 87) (v := .ref r0) rfl rfl rfl ?_)
                        refine wp_of e196 c196_87 (xg_K (pc' := 90) lf_9_166 w2179 g0 sh_42 (by decide) (by decide) rfl q2346 rfl ?_)
                        refine wp_of e196 c196_90 (xg_K (pc' := 93) lf_9_282 w2179 grp sh_54 (by decide) (by decide) rfl q2469 rfl ?_)
                        refine wp_of e196 c196_93 (rw_iload (pc' := 95) (z := v2335) rfl rfl ?_)
                        refine wp_of e196 c196_95 (xa_I (so := 0) (pc' := 96) w2179 g2470 sh_64 (by decide) (ty_64 _) (b2340.1) (by omega) rfl (fun b2492 b2493 => ?_))
                        have := MA_at h2473 q2469 (k := (v2335.toNat)) (by omega)
                        refine wp_of e196 c196_96 (rw_iload_n (pc' := 97) (z := z2181) rfl rfl ?_)
                        refine wp_of e196 c196_97 (rw_icmp_ne (p1 := 118) (p2 := 100) (by decide) rfl ⟨Int.le_trans (by decide) b2492, Int.le_trans b2493 (by decide)⟩ ⟨Int.le_trans (by decide) b2182.1, Int.le_trans b2182.2 (by decide)⟩ (fun c2494 => ?_) (fun c2494 => ?_))
                        · refine wp_of e196 c196_118 (rw_iconst (pc' := 119) rfl ?_)
                          refine wp_of e196 c196_119 (rw_istore_n (pc' := 120) (z := 0) (L' := [(3, vI 0), (4, vI v2335), (2, vI z2181), (1, vI z2140), (0, .ref r0)]) rfl rfl rfl ?_)
                          refine wp_of e196 c196_120 (rw_iinc (pc' := 123) (z := v2335) (L' := [(4, vI (v2335 + 1)), (3, vI 0), (2, vI z2181), (1, vI z2140), (0, .ref r0)]) rfl rfl rfl rfl ?_)
                          refine wp_of e196 c196_123 (rw_goto (p1 := 42) (by decide) ?_)
                          have := xgg_s (d := d) (a := z2140) (b := z2181) (i := v2335) (by omega)
                          exact wp_lc (ks := [4, 3, 2, 1, 0]) (wl_c rfl (wl_c rfl (wl_c rfl (wl_c rfl (wl_c rfl wl_n))))) rfl (by decide) (ih2334 _ (by omega) (v2335 + 1) 0 ⟨by omega, by omega⟩ ⟨by decide, by decide⟩ (by omega) (by omega) rfl)
                        · refine wp_of e196 c196_100 (rw_aload_n (pc' := 101) (v := .ref r0) rfl rfl rfl ?_)
                          refine wp_of e196 c196_101 (xg_K (pc' := 104) lf_9_166 w2179 g0 sh_42 (by decide) (by decide) rfl q2346 rfl ?_)
                          refine wp_of e196 c196_104 (xg_K (pc' := 107) lf_9_285 w2179 grp sh_54 (by decide) (by decide) rfl q2486 rfl ?_)
                          refine wp_of e196 c196_107 (rw_iload (pc' := 109) (z := v2335) rfl rfl ?_)
                          refine wp_of e196 c196_109 (xa_I (so := 0) (pc' := 110) w2179 g2487 sh_65 (by decide) (ty_65 _) (b2340.1) (by omega) rfl (fun b2495 b2496 => ?_))
                          have := MA_at h2490 q2486 (k := (v2335.toNat)) (by omega)
                          refine wp_of e196 c196_110 (rw_iload_n (pc' := 111) (z := z2140) rfl rfl ?_)
                          refine wp_of e196 c196_111 (rw_icmp_ne (p1 := 118) (p2 := 114) (by decide) rfl ⟨Int.le_trans (by decide) b2495, Int.le_trans b2496 (by decide)⟩ ⟨Int.le_trans (by decide) b2141.1, Int.le_trans b2141.2 (by decide)⟩ (fun c2497 => ?_) (fun c2497 => ?_))
                          · refine wp_of e196 c196_118 (rw_iconst (pc' := 119) rfl ?_)
                            refine wp_of e196 c196_119 (rw_istore_n (pc' := 120) (z := 0) (L' := [(3, vI 0), (4, vI v2335), (2, vI z2181), (1, vI z2140), (0, .ref r0)]) rfl rfl rfl ?_)
                            refine wp_of e196 c196_120 (rw_iinc (pc' := 123) (z := v2335) (L' := [(4, vI (v2335 + 1)), (3, vI 0), (2, vI z2181), (1, vI z2140), (0, .ref r0)]) rfl rfl rfl rfl ?_)
                            refine wp_of e196 c196_123 (rw_goto (p1 := 42) (by decide) ?_)
                            have := xgg_s (d := d) (a := z2140) (b := z2181) (i := v2335) (by omega)
                            exact wp_lc (ks := [4, 3, 2, 1, 0]) (wl_c rfl (wl_c rfl (wl_c rfl (wl_c rfl (wl_c rfl wl_n))))) rfl (by decide) (ih2334 _ (by omega) (v2335 + 1) 0 ⟨by omega, by omega⟩ ⟨by decide, by decide⟩ (by omega) (by omega) rfl)
                          · refine wp_of e196 c196_114 (rw_iconst (pc' := 115) rfl ?_)
                            refine wp_of e196 c196_115 (rw_goto (p1 := 119) (by decide) ?_)
                            refine wp_of e196 c196_119 (rw_istore_n (pc' := 120) (z := 1) (L' := [(3, vI 1), (4, vI v2335), (2, vI z2181), (1, vI z2140), (0, .ref r0)]) rfl rfl rfl ?_)
                            refine wp_of e196 c196_120 (rw_iinc (pc' := 123) (z := v2335) (L' := [(4, vI (v2335 + 1)), (3, vI 1), (2, vI z2181), (1, vI z2140), (0, .ref r0)]) rfl rfl rfl rfl ?_)
                            refine wp_of e196 c196_123 (rw_goto (p1 := 42) (by decide) ?_)
                            have := xgg_s (d := d) (a := z2140) (b := z2181) (i := v2335) (by omega)
                            exact wp_lc (ks := [4, 3, 2, 1, 0]) (wl_c rfl (wl_c rfl (wl_c rfl (wl_c rfl (wl_c rfl wl_n))))) rfl (by decide) (ih2334 _ (by omega) (v2335 + 1) 1 ⟨by omega, by omega⟩ ⟨by decide, by decide⟩ (by omega) (by omega) rfl)
            have := @xgg_0 d z2140 z2181
            exact wp_lc (ks := [4, 3, 2, 1, 0]) (wl_c rfl (wl_c rfl (wl_c rfl (wl_c rfl (wl_c rfl wl_n))))) rfl (by decide) (lp2332 _ 0 0 ⟨by decide, by decide⟩ ⟨by decide, by decide⟩ (by omega) (by omega) rfl)
          · refine wp_of e196 c196_33 (rw_iconst (pc' := 34) rfl ?_)
            refine wp_of e196 c196_34 (rw_goto (p1 := 38) (by decide) ?_)
            refine wp_of e196 c196_38 (rw_istore_n (pc' := 39) (z := 1) (L' := [(3, vI 1), (2, vI z2181), (1, vI z2140), (0, .ref r0)]) rfl rfl rfl ?_)
            refine wp_of e196 c196_39 (rw_iconst (pc' := 40) rfl ?_)
            refine wp_of e196 c196_40 (rw_istore (pc' := 42) (z := 0) (L' := [(4, vI 0), (3, vI 1), (2, vI z2181), (1, vI z2140), (0, .ref r0)]) rfl rfl rfl ?_)
            have k2531 : H2175 rp 4 = H rp 4 := ((f2180 rp 4 _ grp rfl).trans ((f2162 rp 4 _ grp rfl).trans ((f2139 rp 4 _ grp rfl).trans (f2119 rp 4 _ grp rfl))))
            have lp2526 : ∀ (n2527 : Nat) (v2529 : Int) (v2530 : Int), (0 ≤ v2529 ∧ v2529 ≤ 3) → (1 ≤ v2530 ∧ v2530 ≤ 1) → (v2530 = xgg d z2140 z2181 v2529) → (v2529 ≤ d 0 4) → (3 - v2529).toNat = n2527 → wp kt 5 196 42 [(4, vI v2529), (3, vI v2530), (2, vI z2181), (1, vI z2140), (0, .ref r0)] [] T H2175 (uq_196_k r0 rp rb B n q d N0 H0 T H) := by
              intro n2527
              induction n2527 using Nat.strongRecOn with
              | _ n2527 ih2528 =>
                intro v2529 v2530 b2534 b2535 x2536 x2537 m2538
                refine wp_of e196 c196_42 (rw_iload (pc' := 44) (z := v2529) rfl rfl ?_)
                refine wp_of e196 c196_44 (rw_aload_n (pc' := 45) (v := .ref r0) rfl rfl rfl ?_)
                have k2539 : H2175 r0 4 = H2157 r0 4 := (f2180 r0 4 _ g0 rfl)
                have q2540 : H2175 r0 4 = (rp : Int) := k2539.trans q2171
                refine wp_of e196 c196_45 (xg_K (pc' := 48) lf_9_166 w2179 g0 sh_42 (by decide) (by decide) rfl q2540 rfl ?_)
                refine wp_of e196 c196_48 (xg_I (pc' := 51) lf_9_276 w2179 grp sh_54 (by decide) (by decide) ty_54_4 rfl rfl (fun b2541 b2542 => ?_))
                refine wp_of e196 c196_51 (rw_icmp_ge (p1 := 126) (p2 := 54) (by decide) rfl ⟨Int.le_trans (by decide) b2534.1, Int.le_trans b2534.2 (by decide)⟩ ⟨Int.le_trans (by decide) b2541, Int.le_trans b2542 (by decide)⟩ (fun c2543 => ?_) (fun c2543 => ?_))
                · have _g := @xac_g d z2140 z2181 v2529 (by omega)
                  have _c : xac d (xwho B n (xN B n q) d) (xwho B n (xN B n (xN B n (xN B n q))) d) = xac d z2140 z2181 := by rw [show xwho B n (xN B n q) d = z2140 by omega, show xwho B n (xN B n (xN B n (xN B n q))) d = z2181 by omega]
                  refine wp_of e196 c196_126 (rw_iload_n (pc' := 127) (z := v2530) rfl rfl ?_)
                  refine wp_of e196 c196_127 (rw_if_eq (p1 := 135) (p2 := 130) (by decide) rfl ⟨Int.le_trans (by decide) b2535.1, Int.le_trans b2535.2 (by decide)⟩ (fun c2544 => ?_) (fun c2544 => ?_))
                  · exfalso
                    omega
                  · refine wp_of e196 c196_130 (rw_aload_n (pc' := 131) (v := .ref r0) rfl rfl rfl ?_)
                    refine wp_of e196 c196_131 (rw_iconst (pc' := 132) rfl ?_)
                    refine wp_of e196 c196_132 (xc_V (pc' := 135) (r := r0) (as := [vI 3]) (st := []) (lm_9_121) rfl rfl (Nat.le_of_ble_eq_true rfl) w2179 g0 sh_42 (by decide) rfl (by decide) (u_181_k (B := B) (n := n) (q := ((xN B n ((xN B n ((xN B n q))))))) w2179 g0 ⟨by decide, by decide⟩ (by omega) a2189) (fun R2545 T2546 H2547 p2548 => ?_))
                    obtain ⟨e2549, w2551, f2552, e2550, p2553⟩ := p2548
                    subst e2549
                    subst e2550
                    have f2555 := f2193.tr f2552 rfl
                    show wp _ _ 196 135 [(4, vI v2529), (3, vI v2530), (2, vI z2181), (1, vI z2140), (0, .ref r0)] [] _ H2547 _
                    have u2556 := RO_k p2553
                    refine wp_of e196 c196_135 (rw_aload_n (pc' := 136) (v := .ref r0) rfl rfl rfl ?_)
                    refine wp_of e196 c196_136 (xc_V (pc' := 139) (r := r0) (as := []) (st := []) (lm_9_118) rfl rfl (Nat.le_of_ble_eq_true rfl) w2551 g0 sh_42 (by decide) rfl (by decide) (u_172_o (fo := 3) (po := (((xN B n ((xN B n ((xN B n q)))))))) w2551 g0 p2553) (fun R2557 T2558 H2559 p2560 => ?_))
                    obtain ⟨e2561, e2563, e2562, p2564⟩ := p2560
                    subst e2561
                    subst e2562
                    subst e2563
                    show wp _ _ 196 139 [(4, vI v2529), (3, vI v2530), (2, vI z2181), (1, vI z2140), (0, .ref r0)] [] _ H2547 _
                    have u2566 := RO_k p2564
                    refine wp_of e196 c196_139 (rw_aload_n (pc' := 140) (v := .ref r0) rfl rfl rfl ?_)
                    refine wp_of e196 c196_140 (xg_I (pc' := 143) lf_9_75 w2551 g0 sh_42 (by decide) (by decide) ty_42_9 rfl rfl (fun b2567 b2568 => ?_))
                    refine wp_of e196 c196_143 (rw_iconst (pc' := 144) rfl ?_)
                    refine wp_of e196 c196_144 (rw_icmp_ne (p1 := 148) (p2 := 147) (by decide) rfl ⟨Int.le_trans (by decide) b2567, Int.le_trans b2568 (by decide)⟩ ⟨by decide, by decide⟩ (fun c2569 => ?_) (fun c2569 => ?_))
                    · exfalso
                      omega
                    · have o2570 : (xl3 B n q d) = (xac d (xwho B n (xN B n q) d) (xwho B n (xN B n (xN B n (xN B n q))) d), (xN B n (xN B n (xN B n q))), (xN B n (xN B n (xN B n q)))) := by
                        unfold xl3 xap
                        repeat first | rw [xs_0 (by omega -splitDisjunctions)] | rw [xs_1 (by omega -splitDisjunctions)] | rw [if_pos (by omega -splitDisjunctions)] | rw [if_neg (by omega -splitDisjunctions)] | rw [xs_0 (by omega)] | rw [xs_1 (by omega)] | rw [if_pos (by omega)] | rw [if_neg (by omega)]
                        first | done | rfl | assumption | (exfalso; omega -splitDisjunctions) | (refine Prod.ext ?_ (Prod.ext ?_ ?_) <;> (try dsimp only) <;> omega) | (exfalso; omega)
                      have o2570a : ((xl3 B n q d)).1 = xac d (xwho B n (xN B n q) d) (xwho B n (xN B n (xN B n (xN B n q))) d) := by rw [o2570]
                      have o2570b : ((xl3 B n q d)).2.1 = (xN B n (xN B n (xN B n q))) := by rw [o2570]
                      have o2570c : ((xl3 B n q d)).2.2 = (xN B n (xN B n (xN B n q))) := by rw [o2570]
                      have h2571 : FZ T H2547 rp N0 H0 := (FZ_fr w2179 grp f2552 rfl (FZ_fr w2161 grp f2180 rfl (FZ_fr w2138 grp f2162 rfl (FZ_fr w2118 grp f2139 rfl (FZ_fr hW grp f2119 rfl hFZ_rp)))))
                      exact wp_return e196 c196_147 rfl ⟨rfl, w2551, f2555, rfl, (Or.inr ⟨by omega, RO_eq p2564 (by omega) (by omega), h2571⟩)⟩
                · refine wp_of e196 c196_54 (rw_iload_n (pc' := 55) (z := v2530) rfl rfl ?_)
                  refine wp_of e196 c196_55 (rw_if_ne (p1 := 114) (p2 := 58) (by decide) rfl ⟨Int.le_trans (by decide) b2535.1, Int.le_trans b2535.2 (by decide)⟩ (fun c2572 => ?_) (fun c2572 => ?_))
                  · refine wp_of e196 c196_114 (rw_iconst (pc' := 115) rfl ?_)
                    refine wp_of e196 c196_115 (rw_goto (p1 := 119) (by decide) ?_)
                    refine wp_of e196 c196_119 (rw_istore_n (pc' := 120) (z := 1) (L' := [(3, vI 1), (4, vI v2529), (2, vI z2181), (1, vI z2140), (0, .ref r0)]) rfl rfl rfl ?_)
                    refine wp_of e196 c196_120 (rw_iinc (pc' := 123) (z := v2529) (L' := [(4, vI (v2529 + 1)), (3, vI 1), (2, vI z2181), (1, vI z2140), (0, .ref r0)]) rfl rfl rfl rfl ?_)
                    refine wp_of e196 c196_123 (rw_goto (p1 := 42) (by decide) ?_)
                    have := xgg_s (d := d) (a := z2140) (b := z2181) (i := v2529) (by omega)
                    exact wp_lc (ks := [4, 3, 2, 1, 0]) (wl_c rfl (wl_c rfl (wl_c rfl (wl_c rfl (wl_c rfl wl_n))))) rfl (by decide) (ih2528 _ (by omega) (v2529 + 1) 1 ⟨by omega, by omega⟩ ⟨by decide, by decide⟩ (by omega) (by omega) rfl)
                  · exfalso
                    omega
            have := @xgg_0 d z2140 z2181
            exact wp_lc (ks := [4, 3, 2, 1, 0]) (wl_c rfl (wl_c rfl (wl_c rfl (wl_c rfl (wl_c rfl wl_n))))) rfl (by decide) (lp2526 _ 0 1 ⟨by decide, by decide⟩ ⟨by decide, by decide⟩ (by omega) (by omega) rfl)
        · have f2573 := f2168.tr f2180 rfl
          show wp _ _ 196 27 [(1, vI z2140), (0, .ref r0)] [vI z2181] _ H2175 _
          have u2574 := RO_k a2192
          refine wp_of e196 c196_27 (rw_istore_n (pc' := 28) (z := z2181) (L' := [(2, vI z2181), (1, vI z2140), (0, .ref r0)]) rfl rfl rfl ?_)
          refine wp_of e196 c196_28 (rw_iload_n (pc' := 29) (z := z2140) rfl rfl ?_)
          refine wp_of e196 c196_29 (rw_iload_n (pc' := 30) (z := z2181) rfl rfl ?_)
          refine wp_of e196 c196_30 (rw_icmp_ne (p1 := 37) (p2 := 33) (by decide) rfl ⟨Int.le_trans (by decide) b2141.1, Int.le_trans b2141.2 (by decide)⟩ ⟨Int.le_trans (by decide) b2182.1, Int.le_trans b2182.2 (by decide)⟩ (fun c2575 => ?_) (fun c2575 => ?_))
          · refine wp_of e196 c196_37 (rw_iconst (pc' := 38) rfl ?_)
            refine wp_of e196 c196_38 (rw_istore_n (pc' := 39) (z := 0) (L' := [(3, vI 0), (2, vI z2181), (1, vI z2140), (0, .ref r0)]) rfl rfl rfl ?_)
            refine wp_of e196 c196_39 (rw_iconst (pc' := 40) rfl ?_)
            refine wp_of e196 c196_40 (rw_istore (pc' := 42) (z := 0) (L' := [(4, vI 0), (3, vI 0), (2, vI z2181), (1, vI z2140), (0, .ref r0)]) rfl rfl rfl ?_)
            have lp2700 : ∀ (n2701 : Nat) (v2703 : Int) (v2704 : Int), (0 ≤ v2703 ∧ v2703 ≤ 3) → (0 ≤ v2704 ∧ v2704 ≤ 1) → (3 - v2703).toNat = n2701 → wp kt 5 196 42 [(4, vI v2703), (3, vI v2704), (2, vI z2181), (1, vI z2140), (0, .ref r0)] [] T H2175 (uq_196_k r0 rp rb B n q d N0 H0 T H) := by
              intro n2701
              induction n2701 using Nat.strongRecOn with
              | _ n2701 ih2702 =>
                intro v2703 v2704 b2707 b2708 m2709
                refine wp_of e196 c196_42 (rw_iload (pc' := 44) (z := v2703) rfl rfl ?_)
                refine wp_of e196 c196_44 (rw_aload_n (pc' := 45) (v := .ref r0) rfl rfl rfl ?_)
                have k2710 : H2175 r0 4 = H2157 r0 4 := (f2180 r0 4 _ g0 rfl)
                have q2711 : H2175 r0 4 = (rp : Int) := k2710.trans q2171
                refine wp_of e196 c196_45 (xg_K (pc' := 48) lf_9_166 w2179 g0 sh_42 (by decide) (by decide) rfl q2711 rfl ?_)
                have k2712 : H2175 rp 4 = H rp 4 := ((f2180 rp 4 _ grp rfl).trans ((f2162 rp 4 _ grp rfl).trans ((f2139 rp 4 _ grp rfl).trans (f2119 rp 4 _ grp rfl))))
                refine wp_of e196 c196_48 (xg_I (pc' := 51) lf_9_276 w2179 grp sh_54 (by decide) (by decide) ty_54_4 rfl rfl (fun b2713 b2714 => ?_))
                refine wp_of e196 c196_51 (rw_icmp_ge (p1 := 126) (p2 := 54) (by decide) rfl ⟨Int.le_trans (by decide) b2707.1, Int.le_trans b2707.2 (by decide)⟩ ⟨Int.le_trans (by decide) b2713, Int.le_trans b2714 (by decide)⟩ (fun c2715 => ?_) (fun c2715 => ?_))
                · refine wp_of e196 c196_126 (rw_iload_n (pc' := 127) (z := v2704) rfl rfl ?_)
                  refine wp_of e196 c196_127 (rw_if_eq (p1 := 135) (p2 := 130) (by decide) rfl ⟨Int.le_trans (by decide) b2708.1, Int.le_trans b2708.2 (by decide)⟩ (fun c2716 => ?_) (fun c2716 => ?_))
                  · refine wp_of e196 c196_135 (rw_aload_n (pc' := 136) (v := .ref r0) rfl rfl rfl ?_)
                    refine wp_of e196 c196_136 (xc_V (pc' := 139) (r := r0) (as := []) (st := []) (lm_9_118) rfl rfl (Nat.le_of_ble_eq_true rfl) w2179 g0 sh_42 (by decide) rfl (by decide) (u_172_o (fo := (xkn B n ((xN B n ((xN B n ((xN B n q)))))) d)) (po := (((xN B n ((xN B n ((xN B n q)))))))) w2179 g0 a2192) (fun R2717 T2718 H2719 p2720 => ?_))
                    obtain ⟨e2721, e2723, e2722, p2724⟩ := p2720
                    subst e2721
                    subst e2722
                    subst e2723
                    show wp _ _ 196 139 [(4, vI v2703), (3, vI v2704), (2, vI z2181), (1, vI z2140), (0, .ref r0)] [] _ H2175 _
                    have u2726 := RO_k p2724
                    refine wp_of e196 c196_139 (rw_aload_n (pc' := 140) (v := .ref r0) rfl rfl rfl ?_)
                    refine wp_of e196 c196_140 (xg_I (pc' := 143) lf_9_75 w2179 g0 sh_42 (by decide) (by decide) ty_42_9 rfl rfl (fun b2727 b2728 => ?_))
                    refine wp_of e196 c196_143 (rw_iconst (pc' := 144) rfl ?_)
                    refine wp_of e196 c196_144 (rw_icmp_ne (p1 := 148) (p2 := 147) (by decide) rfl ⟨Int.le_trans (by decide) b2727, Int.le_trans b2728 (by decide)⟩ ⟨by decide, by decide⟩ (fun c2729 => ?_) (fun c2729 => ?_))
                    · exfalso
                      omega
                    · have o2730 : (xl3 B n q d) = (xkn B n ((xN B n ((xN B n ((xN B n q)))))) d, ((xN B n ((xN B n ((xN B n q)))))), ((xN B n ((xN B n ((xN B n q))))))) := by
                        unfold xl3 xap
                        repeat first | rw [xs_0 (by omega -splitDisjunctions)] | rw [xs_1 (by omega -splitDisjunctions)] | rw [if_pos (by omega -splitDisjunctions)] | rw [if_neg (by omega -splitDisjunctions)] | rw [xs_0 (by omega)] | rw [xs_1 (by omega)] | rw [if_pos (by omega)] | rw [if_neg (by omega)]
                        first | done | rfl | assumption | (exfalso; omega -splitDisjunctions) | (refine Prod.ext ?_ (Prod.ext ?_ ?_) <;> (try dsimp only) <;> omega) | (exfalso; omega)
                      have o2730a : ((xl3 B n q d)).1 = xkn B n ((xN B n ((xN B n ((xN B n q)))))) d := by rw [o2730]
                      have o2730b : ((xl3 B n q d)).2.1 = ((xN B n ((xN B n ((xN B n q)))))) := by rw [o2730]
                      have o2730c : ((xl3 B n q d)).2.2 = ((xN B n ((xN B n ((xN B n q)))))) := by rw [o2730]
                      have h2731 : FZ T H2175 rp N0 H0 := (FZ_fr w2161 grp f2180 rfl (FZ_fr w2138 grp f2162 rfl (FZ_fr w2118 grp f2139 rfl (FZ_fr hW grp f2119 rfl hFZ_rp))))
                      exact wp_return e196 c196_147 rfl ⟨rfl, w2179, f2573, rfl, (Or.inr ⟨by omega, RO_eq p2724 (by omega) (by omega), h2731⟩)⟩
                  · refine wp_of e196 c196_130 (rw_aload_n (pc' := 131) (v := .ref r0) rfl rfl rfl ?_)
                    refine wp_of e196 c196_131 (rw_iconst (pc' := 132) rfl ?_)
                    refine wp_of e196 c196_132 (xc_V (pc' := 135) (r := r0) (as := [vI 3]) (st := []) (lm_9_121) rfl rfl (Nat.le_of_ble_eq_true rfl) w2179 g0 sh_42 (by decide) rfl (by decide) (u_181_o (fo := (xkn B n ((xN B n ((xN B n ((xN B n q)))))) d)) (po := (((xN B n ((xN B n ((xN B n q)))))))) w2179 g0 ⟨by decide, by decide⟩ a2192) (fun R2732 T2733 H2734 p2735 => ?_))
                    obtain ⟨e2736, e2738, e2737, p2739⟩ := p2735
                    subst e2736
                    subst e2737
                    subst e2738
                    show wp _ _ 196 135 [(4, vI v2703), (3, vI v2704), (2, vI z2181), (1, vI z2140), (0, .ref r0)] [] _ H2175 _
                    have u2741 := RO_k p2739
                    refine wp_of e196 c196_135 (rw_aload_n (pc' := 136) (v := .ref r0) rfl rfl rfl ?_)
                    refine wp_of e196 c196_136 (xc_V (pc' := 139) (r := r0) (as := []) (st := []) (lm_9_118) rfl rfl (Nat.le_of_ble_eq_true rfl) w2179 g0 sh_42 (by decide) rfl (by decide) (u_172_o (fo := (xkn B n ((xN B n ((xN B n ((xN B n q)))))) d)) (po := (((xN B n ((xN B n ((xN B n q)))))))) w2179 g0 p2739) (fun R2742 T2743 H2744 p2745 => ?_))
                    obtain ⟨e2746, e2748, e2747, p2749⟩ := p2745
                    subst e2746
                    subst e2747
                    subst e2748
                    show wp _ _ 196 139 [(4, vI v2703), (3, vI v2704), (2, vI z2181), (1, vI z2140), (0, .ref r0)] [] _ H2175 _
                    have u2751 := RO_k p2749
                    refine wp_of e196 c196_139 (rw_aload_n (pc' := 140) (v := .ref r0) rfl rfl rfl ?_)
                    refine wp_of e196 c196_140 (xg_I (pc' := 143) lf_9_75 w2179 g0 sh_42 (by decide) (by decide) ty_42_9 rfl rfl (fun b2752 b2753 => ?_))
                    refine wp_of e196 c196_143 (rw_iconst (pc' := 144) rfl ?_)
                    refine wp_of e196 c196_144 (rw_icmp_ne (p1 := 148) (p2 := 147) (by decide) rfl ⟨Int.le_trans (by decide) b2752, Int.le_trans b2753 (by decide)⟩ ⟨by decide, by decide⟩ (fun c2754 => ?_) (fun c2754 => ?_))
                    · exfalso
                      omega
                    · have o2755 : (xl3 B n q d) = (xkn B n ((xN B n ((xN B n ((xN B n q)))))) d, ((xN B n ((xN B n ((xN B n q)))))), ((xN B n ((xN B n ((xN B n q))))))) := by
                        unfold xl3 xap
                        repeat first | rw [xs_0 (by omega -splitDisjunctions)] | rw [xs_1 (by omega -splitDisjunctions)] | rw [if_pos (by omega -splitDisjunctions)] | rw [if_neg (by omega -splitDisjunctions)] | rw [xs_0 (by omega)] | rw [xs_1 (by omega)] | rw [if_pos (by omega)] | rw [if_neg (by omega)]
                        first | done | rfl | assumption | (exfalso; omega -splitDisjunctions) | (refine Prod.ext ?_ (Prod.ext ?_ ?_) <;> (try dsimp only) <;> omega) | (exfalso; omega)
                      have o2755a : ((xl3 B n q d)).1 = xkn B n ((xN B n ((xN B n ((xN B n q)))))) d := by rw [o2755]
                      have o2755b : ((xl3 B n q d)).2.1 = ((xN B n ((xN B n ((xN B n q)))))) := by rw [o2755]
                      have o2755c : ((xl3 B n q d)).2.2 = ((xN B n ((xN B n ((xN B n q)))))) := by rw [o2755]
                      have h2756 : FZ T H2175 rp N0 H0 := (FZ_fr w2161 grp f2180 rfl (FZ_fr w2138 grp f2162 rfl (FZ_fr w2118 grp f2139 rfl (FZ_fr hW grp f2119 rfl hFZ_rp))))
                      exact wp_return e196 c196_147 rfl ⟨rfl, w2179, f2573, rfl, (Or.inr ⟨by omega, RO_eq p2749 (by omega) (by omega), h2756⟩)⟩
                · refine wp_of e196 c196_54 (rw_iload_n (pc' := 55) (z := v2704) rfl rfl ?_)
                  refine wp_of e196 c196_55 (rw_if_ne (p1 := 114) (p2 := 58) (by decide) rfl ⟨Int.le_trans (by decide) b2708.1, Int.le_trans b2708.2 (by decide)⟩ (fun c2757 => ?_) (fun c2757 => ?_))
                  · refine wp_of e196 c196_114 (rw_iconst (pc' := 115) rfl ?_)
                    refine wp_of e196 c196_115 (rw_goto (p1 := 119) (by decide) ?_)
                    refine wp_of e196 c196_119 (rw_istore_n (pc' := 120) (z := 1) (L' := [(3, vI 1), (4, vI v2703), (2, vI z2181), (1, vI z2140), (0, .ref r0)]) rfl rfl rfl ?_)
                    refine wp_of e196 c196_120 (rw_iinc (pc' := 123) (z := v2703) (L' := [(4, vI (v2703 + 1)), (3, vI 1), (2, vI z2181), (1, vI z2140), (0, .ref r0)]) rfl rfl rfl rfl ?_)
                    refine wp_of e196 c196_123 (rw_goto (p1 := 42) (by decide) ?_)
                    exact wp_lc (ks := [4, 3, 2, 1, 0]) (wl_c rfl (wl_c rfl (wl_c rfl (wl_c rfl (wl_c rfl wl_n))))) rfl (by decide) (ih2702 _ (by omega) (v2703 + 1) 1 ⟨by omega, by omega⟩ ⟨by decide, by decide⟩ rfl)
                  · refine wp_of e196 c196_58 (rw_aload_n (pc' := 59) (v := .ref r0) rfl rfl rfl ?_)
                    refine wp_of e196 c196_59 (xg_K (pc' := 62) lf_9_166 w2179 g0 sh_42 (by decide) (by decide) rfl q2711 rfl ?_)
                    refine wp_of e196 c196_62 (xg_R (pc' := 65) lf_9_282 w2179 grp sh_54 (by decide) (by decide) ty_54_18 rfl rfl (fun r2758 q2759 g2760 => ?_))
                    refine wp_of e196 c196_65 (rw_iload (pc' := 67) (z := v2703) rfl rfl ?_)
                    refine wp_of e196 c196_67 (xa_I (so := 0) (pc' := 68) w2179 g2760 sh_64 (by decide) (ty_64 _) (b2707.1) (by omega) rfl (fun b2761 b2762 => ?_))
                    have h2763 : MA18 T H2175 rp (d 10) := (MA18_fr w2161 grp f2180 rfl (MA18_fr w2138 grp f2162 rfl (MA18_fr w2118 grp f2139 rfl (MA18_fr hW grp f2119 rfl h2102))))
                    have := MA_at h2763 q2759 (k := (v2703.toNat)) (by omega)
                    refine wp_of e196 c196_68 (rw_iload_n (pc' := 69) (z := z2140) rfl rfl ?_)
                    refine wp_of e196 c196_69 (rw_icmp_ne (p1 := 86) (p2 := 72) (by decide) rfl ⟨Int.le_trans (by decide) b2761, Int.le_trans b2762 (by decide)⟩ ⟨Int.le_trans (by decide) b2141.1, Int.le_trans b2141.2 (by decide)⟩ (fun c2764 => ?_) (fun c2764 => ?_))
                    · refine wp_of e196 c196_86 (rw_aload_n (pc' := 87) (v := .ref r0) rfl rfl rfl ?_)
                      refine wp_of e196 c196_87 (xg_K (pc' := 90) lf_9_166 w2179 g0 sh_42 (by decide) (by decide) rfl q2711 rfl ?_)
                      refine wp_of e196 c196_90 (xg_K (pc' := 93) lf_9_282 w2179 grp sh_54 (by decide) (by decide) rfl q2759 rfl ?_)
                      refine wp_of e196 c196_93 (rw_iload (pc' := 95) (z := v2703) rfl rfl ?_)
                      refine wp_of e196 c196_95 (xa_I (so := 0) (pc' := 96) w2179 g2760 sh_64 (by decide) (ty_64 _) (b2707.1) (by omega) rfl (fun b2765 b2766 => ?_))
                      have := MA_at h2763 q2759 (k := (v2703.toNat)) (by omega)
                      refine wp_of e196 c196_96 (rw_iload_n (pc' := 97) (z := z2181) rfl rfl ?_)
                      refine wp_of e196 c196_97 (rw_icmp_ne (p1 := 118) (p2 := 100) (by decide) rfl ⟨Int.le_trans (by decide) b2765, Int.le_trans b2766 (by decide)⟩ ⟨Int.le_trans (by decide) b2182.1, Int.le_trans b2182.2 (by decide)⟩ (fun c2767 => ?_) (fun c2767 => ?_))
                      · refine wp_of e196 c196_118 (rw_iconst (pc' := 119) rfl ?_)
                        refine wp_of e196 c196_119 (rw_istore_n (pc' := 120) (z := 0) (L' := [(3, vI 0), (4, vI v2703), (2, vI z2181), (1, vI z2140), (0, .ref r0)]) rfl rfl rfl ?_)
                        refine wp_of e196 c196_120 (rw_iinc (pc' := 123) (z := v2703) (L' := [(4, vI (v2703 + 1)), (3, vI 0), (2, vI z2181), (1, vI z2140), (0, .ref r0)]) rfl rfl rfl rfl ?_)
                        refine wp_of e196 c196_123 (rw_goto (p1 := 42) (by decide) ?_)
                        exact wp_lc (ks := [4, 3, 2, 1, 0]) (wl_c rfl (wl_c rfl (wl_c rfl (wl_c rfl (wl_c rfl wl_n))))) rfl (by decide) (ih2702 _ (by omega) (v2703 + 1) 0 ⟨by omega, by omega⟩ ⟨by decide, by decide⟩ rfl)
                      · refine wp_of e196 c196_100 (rw_aload_n (pc' := 101) (v := .ref r0) rfl rfl rfl ?_)
                        refine wp_of e196 c196_101 (xg_K (pc' := 104) lf_9_166 w2179 g0 sh_42 (by decide) (by decide) rfl q2711 rfl ?_)
                        refine wp_of e196 c196_104 (xg_R (pc' := 107) lf_9_285 w2179 grp sh_54 (by decide) (by decide) ty_54_19 rfl rfl (fun r2768 q2769 g2770 => ?_))
                        refine wp_of e196 c196_107 (rw_iload (pc' := 109) (z := v2703) rfl rfl ?_)
                        refine wp_of e196 c196_109 (xa_I (so := 0) (pc' := 110) w2179 g2770 sh_65 (by decide) (ty_65 _) (b2707.1) (by omega) rfl (fun b2771 b2772 => ?_))
                        have h2773 : MA19 T H2175 rp (d 11) := (MA19_fr w2161 grp f2180 rfl (MA19_fr w2138 grp f2162 rfl (MA19_fr w2118 grp f2139 rfl (MA19_fr hW grp f2119 rfl h2103))))
                        have := MA_at h2773 q2769 (k := (v2703.toNat)) (by omega)
                        refine wp_of e196 c196_110 (rw_iload_n (pc' := 111) (z := z2140) rfl rfl ?_)
                        refine wp_of e196 c196_111 (rw_icmp_ne (p1 := 118) (p2 := 114) (by decide) rfl ⟨Int.le_trans (by decide) b2771, Int.le_trans b2772 (by decide)⟩ ⟨Int.le_trans (by decide) b2141.1, Int.le_trans b2141.2 (by decide)⟩ (fun c2774 => ?_) (fun c2774 => ?_))
                        · refine wp_of e196 c196_118 (rw_iconst (pc' := 119) rfl ?_)
                          refine wp_of e196 c196_119 (rw_istore_n (pc' := 120) (z := 0) (L' := [(3, vI 0), (4, vI v2703), (2, vI z2181), (1, vI z2140), (0, .ref r0)]) rfl rfl rfl ?_)
                          refine wp_of e196 c196_120 (rw_iinc (pc' := 123) (z := v2703) (L' := [(4, vI (v2703 + 1)), (3, vI 0), (2, vI z2181), (1, vI z2140), (0, .ref r0)]) rfl rfl rfl rfl ?_)
                          refine wp_of e196 c196_123 (rw_goto (p1 := 42) (by decide) ?_)
                          exact wp_lc (ks := [4, 3, 2, 1, 0]) (wl_c rfl (wl_c rfl (wl_c rfl (wl_c rfl (wl_c rfl wl_n))))) rfl (by decide) (ih2702 _ (by omega) (v2703 + 1) 0 ⟨by omega, by omega⟩ ⟨by decide, by decide⟩ rfl)
                        · refine wp_of e196 c196_114 (rw_iconst (pc' := 115) rfl ?_)
                          refine wp_of e196 c196_115 (rw_goto (p1 := 119) (by decide) ?_)
                          refine wp_of e196 c196_119 (rw_istore_n (pc' := 120) (z := 1) (L' := [(3, vI 1), (4, vI v2703), (2, vI z2181), (1, vI z2140), (0, .ref r0)]) rfl rfl rfl ?_)
                          refine wp_of e196 c196_120 (rw_iinc (pc' := 123) (z := v2703) (L' := [(4, vI (v2703 + 1)), (3, vI 1), (2, vI z2181), (1, vI z2140), (0, .ref r0)]) rfl rfl rfl rfl ?_)
                          refine wp_of e196 c196_123 (rw_goto (p1 := 42) (by decide) ?_)
                          exact wp_lc (ks := [4, 3, 2, 1, 0]) (wl_c rfl (wl_c rfl (wl_c rfl (wl_c rfl (wl_c rfl wl_n))))) rfl (by decide) (ih2702 _ (by omega) (v2703 + 1) 1 ⟨by omega, by omega⟩ ⟨by decide, by decide⟩ rfl)
                    · refine wp_of e196 c196_72 (rw_aload_n (pc' := 73) (v := .ref r0) rfl rfl rfl ?_)
                      refine wp_of e196 c196_73 (xg_K (pc' := 76) lf_9_166 w2179 g0 sh_42 (by decide) (by decide) rfl q2711 rfl ?_)
                      refine wp_of e196 c196_76 (xg_R (pc' := 79) lf_9_285 w2179 grp sh_54 (by decide) (by decide) ty_54_19 rfl rfl (fun r2775 q2776 g2777 => ?_))
                      refine wp_of e196 c196_79 (rw_iload (pc' := 81) (z := v2703) rfl rfl ?_)
                      refine wp_of e196 c196_81 (xa_I (so := 0) (pc' := 82) w2179 g2777 sh_65 (by decide) (ty_65 _) (b2707.1) (by omega) rfl (fun b2778 b2779 => ?_))
                      have h2780 : MA19 T H2175 rp (d 11) := (MA19_fr w2161 grp f2180 rfl (MA19_fr w2138 grp f2162 rfl (MA19_fr w2118 grp f2139 rfl (MA19_fr hW grp f2119 rfl h2103))))
                      have := MA_at h2780 q2776 (k := (v2703.toNat)) (by omega)
                      refine wp_of e196 c196_82 (rw_iload_n (pc' := 83) (z := z2181) rfl rfl ?_)
                      refine wp_of e196 c196_83 (rw_icmp_eq (p1 := 114) (p2 := 86) (by decide) rfl ⟨Int.le_trans (by decide) b2778, Int.le_trans b2779 (by decide)⟩ ⟨Int.le_trans (by decide) b2182.1, Int.le_trans b2182.2 (by decide)⟩ (fun c2781 => ?_) (fun c2781 => ?_))
                      · refine wp_of e196 c196_114 (rw_iconst (pc' := 115) rfl ?_)
                        refine wp_of e196 c196_115 (rw_goto (p1 := 119) (by decide) ?_)
                        refine wp_of e196 c196_119 (rw_istore_n (pc' := 120) (z := 1) (L' := [(3, vI 1), (4, vI v2703), (2, vI z2181), (1, vI z2140), (0, .ref r0)]) rfl rfl rfl ?_)
                        refine wp_of e196 c196_120 (rw_iinc (pc' := 123) (z := v2703) (L' := [(4, vI (v2703 + 1)), (3, vI 1), (2, vI z2181), (1, vI z2140), (0, .ref r0)]) rfl rfl rfl rfl ?_)
                        refine wp_of e196 c196_123 (rw_goto (p1 := 42) (by decide) ?_)
                        exact wp_lc (ks := [4, 3, 2, 1, 0]) (wl_c rfl (wl_c rfl (wl_c rfl (wl_c rfl (wl_c rfl wl_n))))) rfl (by decide) (ih2702 _ (by omega) (v2703 + 1) 1 ⟨by omega, by omega⟩ ⟨by decide, by decide⟩ rfl)
                      · refine wp_of e196 c196_86 (rw_aload_n (pc' := 87) (v := .ref r0) rfl rfl rfl ?_)
                        refine wp_of e196 c196_87 (xg_K (pc' := 90) lf_9_166 w2179 g0 sh_42 (by decide) (by decide) rfl q2711 rfl ?_)
                        refine wp_of e196 c196_90 (xg_K (pc' := 93) lf_9_282 w2179 grp sh_54 (by decide) (by decide) rfl q2759 rfl ?_)
                        refine wp_of e196 c196_93 (rw_iload (pc' := 95) (z := v2703) rfl rfl ?_)
                        refine wp_of e196 c196_95 (xa_I (so := 0) (pc' := 96) w2179 g2760 sh_64 (by decide) (ty_64 _) (b2707.1) (by omega) rfl (fun b2782 b2783 => ?_))
                        have := MA_at h2763 q2759 (k := (v2703.toNat)) (by omega)
                        refine wp_of e196 c196_96 (rw_iload_n (pc' := 97) (z := z2181) rfl rfl ?_)
                        refine wp_of e196 c196_97 (rw_icmp_ne (p1 := 118) (p2 := 100) (by decide) rfl ⟨Int.le_trans (by decide) b2782, Int.le_trans b2783 (by decide)⟩ ⟨Int.le_trans (by decide) b2182.1, Int.le_trans b2182.2 (by decide)⟩ (fun c2784 => ?_) (fun c2784 => ?_))
                        · refine wp_of e196 c196_118 (rw_iconst (pc' := 119) rfl ?_)
                          refine wp_of e196 c196_119 (rw_istore_n (pc' := 120) (z := 0) (L' := [(3, vI 0), (4, vI v2703), (2, vI z2181), (1, vI z2140), (0, .ref r0)]) rfl rfl rfl ?_)
                          refine wp_of e196 c196_120 (rw_iinc (pc' := 123) (z := v2703) (L' := [(4, vI (v2703 + 1)), (3, vI 0), (2, vI z2181), (1, vI z2140), (0, .ref r0)]) rfl rfl rfl rfl ?_)
                          refine wp_of e196 c196_123 (rw_goto (p1 := 42) (by decide) ?_)
                          exact wp_lc (ks := [4, 3, 2, 1, 0]) (wl_c rfl (wl_c rfl (wl_c rfl (wl_c rfl (wl_c rfl wl_n))))) rfl (by decide) (ih2702 _ (by omega) (v2703 + 1) 0 ⟨by omega, by omega⟩ ⟨by decide, by decide⟩ rfl)
                        · exfalso
                          omega
            exact wp_lc (ks := [4, 3, 2, 1, 0]) (wl_c rfl (wl_c rfl (wl_c rfl (wl_c rfl (wl_c rfl wl_n))))) rfl (by decide) (lp2700 _ 0 0 ⟨by decide, by decide⟩ ⟨by decide, by decide⟩ rfl)
          · refine wp_of e196 c196_33 (rw_iconst (pc' := 34) rfl ?_)
            refine wp_of e196 c196_34 (rw_goto (p1 := 38) (by decide) ?_)
            refine wp_of e196 c196_38 (rw_istore_n (pc' := 39) (z := 1) (L' := [(3, vI 1), (2, vI z2181), (1, vI z2140), (0, .ref r0)]) rfl rfl rfl ?_)
            refine wp_of e196 c196_39 (rw_iconst (pc' := 40) rfl ?_)
            refine wp_of e196 c196_40 (rw_istore (pc' := 42) (z := 0) (L' := [(4, vI 0), (3, vI 1), (2, vI z2181), (1, vI z2140), (0, .ref r0)]) rfl rfl rfl ?_)
            have lp2813 : ∀ (n2814 : Nat) (v2816 : Int) (v2817 : Int), (0 ≤ v2816 ∧ v2816 ≤ 3) → (1 ≤ v2817 ∧ v2817 ≤ 1) → (3 - v2816).toNat = n2814 → wp kt 5 196 42 [(4, vI v2816), (3, vI v2817), (2, vI z2181), (1, vI z2140), (0, .ref r0)] [] T H2175 (uq_196_k r0 rp rb B n q d N0 H0 T H) := by
              intro n2814
              induction n2814 using Nat.strongRecOn with
              | _ n2814 ih2815 =>
                intro v2816 v2817 b2820 b2821 m2822
                refine wp_of e196 c196_42 (rw_iload (pc' := 44) (z := v2816) rfl rfl ?_)
                refine wp_of e196 c196_44 (rw_aload_n (pc' := 45) (v := .ref r0) rfl rfl rfl ?_)
                have k2823 : H2175 r0 4 = H2157 r0 4 := (f2180 r0 4 _ g0 rfl)
                have q2824 : H2175 r0 4 = (rp : Int) := k2823.trans q2171
                refine wp_of e196 c196_45 (xg_K (pc' := 48) lf_9_166 w2179 g0 sh_42 (by decide) (by decide) rfl q2824 rfl ?_)
                have k2825 : H2175 rp 4 = H rp 4 := ((f2180 rp 4 _ grp rfl).trans ((f2162 rp 4 _ grp rfl).trans ((f2139 rp 4 _ grp rfl).trans (f2119 rp 4 _ grp rfl))))
                refine wp_of e196 c196_48 (xg_I (pc' := 51) lf_9_276 w2179 grp sh_54 (by decide) (by decide) ty_54_4 rfl rfl (fun b2826 b2827 => ?_))
                refine wp_of e196 c196_51 (rw_icmp_ge (p1 := 126) (p2 := 54) (by decide) rfl ⟨Int.le_trans (by decide) b2820.1, Int.le_trans b2820.2 (by decide)⟩ ⟨Int.le_trans (by decide) b2826, Int.le_trans b2827 (by decide)⟩ (fun c2828 => ?_) (fun c2828 => ?_))
                · refine wp_of e196 c196_126 (rw_iload_n (pc' := 127) (z := v2817) rfl rfl ?_)
                  refine wp_of e196 c196_127 (rw_if_eq (p1 := 135) (p2 := 130) (by decide) rfl ⟨Int.le_trans (by decide) b2821.1, Int.le_trans b2821.2 (by decide)⟩ (fun c2829 => ?_) (fun c2829 => ?_))
                  · exfalso
                    omega
                  · refine wp_of e196 c196_130 (rw_aload_n (pc' := 131) (v := .ref r0) rfl rfl rfl ?_)
                    refine wp_of e196 c196_131 (rw_iconst (pc' := 132) rfl ?_)
                    refine wp_of e196 c196_132 (xc_V (pc' := 135) (r := r0) (as := [vI 3]) (st := []) (lm_9_121) rfl rfl (Nat.le_of_ble_eq_true rfl) w2179 g0 sh_42 (by decide) rfl (by decide) (u_181_o (fo := (xkn B n ((xN B n ((xN B n ((xN B n q)))))) d)) (po := (((xN B n ((xN B n ((xN B n q)))))))) w2179 g0 ⟨by decide, by decide⟩ a2192) (fun R2830 T2831 H2832 p2833 => ?_))
                    obtain ⟨e2834, e2836, e2835, p2837⟩ := p2833
                    subst e2834
                    subst e2835
                    subst e2836
                    show wp _ _ 196 135 [(4, vI v2816), (3, vI v2817), (2, vI z2181), (1, vI z2140), (0, .ref r0)] [] _ H2175 _
                    have u2839 := RO_k p2837
                    refine wp_of e196 c196_135 (rw_aload_n (pc' := 136) (v := .ref r0) rfl rfl rfl ?_)
                    refine wp_of e196 c196_136 (xc_V (pc' := 139) (r := r0) (as := []) (st := []) (lm_9_118) rfl rfl (Nat.le_of_ble_eq_true rfl) w2179 g0 sh_42 (by decide) rfl (by decide) (u_172_o (fo := (xkn B n ((xN B n ((xN B n ((xN B n q)))))) d)) (po := (((xN B n ((xN B n ((xN B n q)))))))) w2179 g0 p2837) (fun R2840 T2841 H2842 p2843 => ?_))
                    obtain ⟨e2844, e2846, e2845, p2847⟩ := p2843
                    subst e2844
                    subst e2845
                    subst e2846
                    show wp _ _ 196 139 [(4, vI v2816), (3, vI v2817), (2, vI z2181), (1, vI z2140), (0, .ref r0)] [] _ H2175 _
                    have u2849 := RO_k p2847
                    refine wp_of e196 c196_139 (rw_aload_n (pc' := 140) (v := .ref r0) rfl rfl rfl ?_)
                    refine wp_of e196 c196_140 (xg_I (pc' := 143) lf_9_75 w2179 g0 sh_42 (by decide) (by decide) ty_42_9 rfl rfl (fun b2850 b2851 => ?_))
                    refine wp_of e196 c196_143 (rw_iconst (pc' := 144) rfl ?_)
                    refine wp_of e196 c196_144 (rw_icmp_ne (p1 := 148) (p2 := 147) (by decide) rfl ⟨Int.le_trans (by decide) b2850, Int.le_trans b2851 (by decide)⟩ ⟨by decide, by decide⟩ (fun c2852 => ?_) (fun c2852 => ?_))
                    · exfalso
                      omega
                    · have o2853 : (xl3 B n q d) = (xkn B n ((xN B n ((xN B n ((xN B n q)))))) d, ((xN B n ((xN B n ((xN B n q)))))), ((xN B n ((xN B n ((xN B n q))))))) := by
                        unfold xl3 xap
                        repeat first | rw [xs_0 (by omega -splitDisjunctions)] | rw [xs_1 (by omega -splitDisjunctions)] | rw [if_pos (by omega -splitDisjunctions)] | rw [if_neg (by omega -splitDisjunctions)] | rw [xs_0 (by omega)] | rw [xs_1 (by omega)] | rw [if_pos (by omega)] | rw [if_neg (by omega)]
                        first | done | rfl | assumption | (exfalso; omega -splitDisjunctions) | (refine Prod.ext ?_ (Prod.ext ?_ ?_) <;> (try dsimp only) <;> omega) | (exfalso; omega)
                      have o2853a : ((xl3 B n q d)).1 = xkn B n ((xN B n ((xN B n ((xN B n q)))))) d := by rw [o2853]
                      have o2853b : ((xl3 B n q d)).2.1 = ((xN B n ((xN B n ((xN B n q)))))) := by rw [o2853]
                      have o2853c : ((xl3 B n q d)).2.2 = ((xN B n ((xN B n ((xN B n q)))))) := by rw [o2853]
                      have h2854 : FZ T H2175 rp N0 H0 := (FZ_fr w2161 grp f2180 rfl (FZ_fr w2138 grp f2162 rfl (FZ_fr w2118 grp f2139 rfl (FZ_fr hW grp f2119 rfl hFZ_rp))))
                      exact wp_return e196 c196_147 rfl ⟨rfl, w2179, f2573, rfl, (Or.inr ⟨by omega, RO_eq p2847 (by omega) (by omega), h2854⟩)⟩
                · refine wp_of e196 c196_54 (rw_iload_n (pc' := 55) (z := v2817) rfl rfl ?_)
                  refine wp_of e196 c196_55 (rw_if_ne (p1 := 114) (p2 := 58) (by decide) rfl ⟨Int.le_trans (by decide) b2821.1, Int.le_trans b2821.2 (by decide)⟩ (fun c2855 => ?_) (fun c2855 => ?_))
                  · refine wp_of e196 c196_114 (rw_iconst (pc' := 115) rfl ?_)
                    refine wp_of e196 c196_115 (rw_goto (p1 := 119) (by decide) ?_)
                    refine wp_of e196 c196_119 (rw_istore_n (pc' := 120) (z := 1) (L' := [(3, vI 1), (4, vI v2816), (2, vI z2181), (1, vI z2140), (0, .ref r0)]) rfl rfl rfl ?_)
                    refine wp_of e196 c196_120 (rw_iinc (pc' := 123) (z := v2816) (L' := [(4, vI (v2816 + 1)), (3, vI 1), (2, vI z2181), (1, vI z2140), (0, .ref r0)]) rfl rfl rfl rfl ?_)
                    refine wp_of e196 c196_123 (rw_goto (p1 := 42) (by decide) ?_)
                    exact wp_lc (ks := [4, 3, 2, 1, 0]) (wl_c rfl (wl_c rfl (wl_c rfl (wl_c rfl (wl_c rfl wl_n))))) rfl (by decide) (ih2815 _ (by omega) (v2816 + 1) 1 ⟨by omega, by omega⟩ ⟨by decide, by decide⟩ rfl)
                  · exfalso
                    omega
            exact wp_lc (ks := [4, 3, 2, 1, 0]) (wl_c rfl (wl_c rfl (wl_c rfl (wl_c rfl (wl_c rfl wl_n))))) rfl (by decide) (lp2813 _ 0 1 ⟨by decide, by decide⟩ ⟨by decide, by decide⟩ rfl)
      · have f2856 := f2151.tr f2162 rfl
        show wp _ _ 196 23 [(1, vI z2140), (0, .ref r0)] [] _ H2157 _
        have u2857 := RO_k a2167
        refine wp_of e196 c196_23 (rw_aload_n (pc' := 24) (v := .ref r0) rfl rfl rfl ?_)
        have k2858 : H2157 r0 4 = H2114 r0 4 := ((f2162 r0 4 _ g0 rfl).trans (f2139 r0 4 _ g0 rfl))
        have q2859 : H2157 r0 4 = (rp : Int) := k2858.trans q2128
        refine wp_of e196 c196_24 (xc_V (pc' := 27) (r := r0) (as := []) (st := []) (lm_9_176) rfl rfl (Nat.le_of_ble_eq_true rfl) w2161 g0 sh_42 (by decide) rfl (by decide) (u_195_o (fo := (xk B n ((xN B n ((xN B n q)))) 4)) (po := (((xN B n ((xN B n q)))))) w2161 g0 q2859 grp a2167) (fun R2860 T2861 H2862 p2863 => ?_))
        obtain ⟨e2864, e2866, z2867, e2865, b2868, p2869⟩ := p2863
        subst e2864
        subst e2865
        subst e2866
        obtain ⟨a2870, a2871⟩ := p2869
        show wp _ _ 196 27 [(1, vI z2140), (0, .ref r0)] [vI z2867] _ H2157 _
        have u2872 := RO_k a2871
        refine wp_of e196 c196_27 (rw_istore_n (pc' := 28) (z := z2867) (L' := [(2, vI z2867), (1, vI z2140), (0, .ref r0)]) rfl rfl rfl ?_)
        refine wp_of e196 c196_28 (rw_iload_n (pc' := 29) (z := z2140) rfl rfl ?_)
        refine wp_of e196 c196_29 (rw_iload_n (pc' := 30) (z := z2867) rfl rfl ?_)
        refine wp_of e196 c196_30 (rw_icmp_ne (p1 := 37) (p2 := 33) (by decide) rfl ⟨Int.le_trans (by decide) b2141.1, Int.le_trans b2141.2 (by decide)⟩ ⟨Int.le_trans (by decide) b2868.1, Int.le_trans b2868.2 (by decide)⟩ (fun c2873 => ?_) (fun c2873 => ?_))
        · refine wp_of e196 c196_37 (rw_iconst (pc' := 38) rfl ?_)
          refine wp_of e196 c196_38 (rw_istore_n (pc' := 39) (z := 0) (L' := [(3, vI 0), (2, vI z2867), (1, vI z2140), (0, .ref r0)]) rfl rfl rfl ?_)
          refine wp_of e196 c196_39 (rw_iconst (pc' := 40) rfl ?_)
          refine wp_of e196 c196_40 (rw_istore (pc' := 42) (z := 0) (L' := [(4, vI 0), (3, vI 0), (2, vI z2867), (1, vI z2140), (0, .ref r0)]) rfl rfl rfl ?_)
          have lp2998 : ∀ (n2999 : Nat) (v3001 : Int) (v3002 : Int), (0 ≤ v3001 ∧ v3001 ≤ 3) → (0 ≤ v3002 ∧ v3002 ≤ 1) → (3 - v3001).toNat = n2999 → wp kt 5 196 42 [(4, vI v3001), (3, vI v3002), (2, vI z2867), (1, vI z2140), (0, .ref r0)] [] T H2157 (uq_196_k r0 rp rb B n q d N0 H0 T H) := by
            intro n2999
            induction n2999 using Nat.strongRecOn with
            | _ n2999 ih3000 =>
              intro v3001 v3002 b3005 b3006 m3007
              refine wp_of e196 c196_42 (rw_iload (pc' := 44) (z := v3001) rfl rfl ?_)
              refine wp_of e196 c196_44 (rw_aload_n (pc' := 45) (v := .ref r0) rfl rfl rfl ?_)
              refine wp_of e196 c196_45 (xg_K (pc' := 48) lf_9_166 w2161 g0 sh_42 (by decide) (by decide) rfl q2859 rfl ?_)
              have k3008 : H2157 rp 4 = H rp 4 := ((f2162 rp 4 _ grp rfl).trans ((f2139 rp 4 _ grp rfl).trans (f2119 rp 4 _ grp rfl)))
              refine wp_of e196 c196_48 (xg_I (pc' := 51) lf_9_276 w2161 grp sh_54 (by decide) (by decide) ty_54_4 rfl rfl (fun b3009 b3010 => ?_))
              refine wp_of e196 c196_51 (rw_icmp_ge (p1 := 126) (p2 := 54) (by decide) rfl ⟨Int.le_trans (by decide) b3005.1, Int.le_trans b3005.2 (by decide)⟩ ⟨Int.le_trans (by decide) b3009, Int.le_trans b3010 (by decide)⟩ (fun c3011 => ?_) (fun c3011 => ?_))
              · refine wp_of e196 c196_126 (rw_iload_n (pc' := 127) (z := v3002) rfl rfl ?_)
                refine wp_of e196 c196_127 (rw_if_eq (p1 := 135) (p2 := 130) (by decide) rfl ⟨Int.le_trans (by decide) b3006.1, Int.le_trans b3006.2 (by decide)⟩ (fun c3012 => ?_) (fun c3012 => ?_))
                · refine wp_of e196 c196_135 (rw_aload_n (pc' := 136) (v := .ref r0) rfl rfl rfl ?_)
                  refine wp_of e196 c196_136 (xc_V (pc' := 139) (r := r0) (as := []) (st := []) (lm_9_118) rfl rfl (Nat.le_of_ble_eq_true rfl) w2161 g0 sh_42 (by decide) rfl (by decide) (u_172_o (fo := (xk B n ((xN B n ((xN B n q)))) 4)) (po := (((xN B n ((xN B n q)))))) w2161 g0 a2871) (fun R3013 T3014 H3015 p3016 => ?_))
                  obtain ⟨e3017, e3019, e3018, p3020⟩ := p3016
                  subst e3017
                  subst e3018
                  subst e3019
                  show wp _ _ 196 139 [(4, vI v3001), (3, vI v3002), (2, vI z2867), (1, vI z2140), (0, .ref r0)] [] _ H2157 _
                  have u3022 := RO_k p3020
                  refine wp_of e196 c196_139 (rw_aload_n (pc' := 140) (v := .ref r0) rfl rfl rfl ?_)
                  refine wp_of e196 c196_140 (xg_I (pc' := 143) lf_9_75 w2161 g0 sh_42 (by decide) (by decide) ty_42_9 rfl rfl (fun b3023 b3024 => ?_))
                  refine wp_of e196 c196_143 (rw_iconst (pc' := 144) rfl ?_)
                  refine wp_of e196 c196_144 (rw_icmp_ne (p1 := 148) (p2 := 147) (by decide) rfl ⟨Int.le_trans (by decide) b3023, Int.le_trans b3024 (by decide)⟩ ⟨by decide, by decide⟩ (fun c3025 => ?_) (fun c3025 => ?_))
                  · exfalso
                    omega
                  · have o3026 : (xl3 B n q d) = (xk B n ((xN B n ((xN B n q)))) 4, ((xN B n ((xN B n q)))), ((xN B n ((xN B n q))))) := by
                      unfold xl3 xap
                      repeat first | rw [xs_0 (by omega -splitDisjunctions)] | rw [xs_1 (by omega -splitDisjunctions)] | rw [if_pos (by omega -splitDisjunctions)] | rw [if_neg (by omega -splitDisjunctions)] | rw [xs_0 (by omega)] | rw [xs_1 (by omega)] | rw [if_pos (by omega)] | rw [if_neg (by omega)]
                      first | done | rfl | assumption | (exfalso; omega -splitDisjunctions) | (refine Prod.ext ?_ (Prod.ext ?_ ?_) <;> (try dsimp only) <;> omega) | (exfalso; omega)
                    have o3026a : ((xl3 B n q d)).1 = xk B n ((xN B n ((xN B n q)))) 4 := by rw [o3026]
                    have o3026b : ((xl3 B n q d)).2.1 = ((xN B n ((xN B n q)))) := by rw [o3026]
                    have o3026c : ((xl3 B n q d)).2.2 = ((xN B n ((xN B n q)))) := by rw [o3026]
                    have h3027 : FZ T H2157 rp N0 H0 := (FZ_fr w2138 grp f2162 rfl (FZ_fr w2118 grp f2139 rfl (FZ_fr hW grp f2119 rfl hFZ_rp)))
                    exact wp_return e196 c196_147 rfl ⟨rfl, w2161, f2856, rfl, (Or.inr ⟨by omega, RO_eq p3020 (by omega) (by omega), h3027⟩)⟩
                · refine wp_of e196 c196_130 (rw_aload_n (pc' := 131) (v := .ref r0) rfl rfl rfl ?_)
                  refine wp_of e196 c196_131 (rw_iconst (pc' := 132) rfl ?_)
                  refine wp_of e196 c196_132 (xc_V (pc' := 135) (r := r0) (as := [vI 3]) (st := []) (lm_9_121) rfl rfl (Nat.le_of_ble_eq_true rfl) w2161 g0 sh_42 (by decide) rfl (by decide) (u_181_o (fo := (xk B n ((xN B n ((xN B n q)))) 4)) (po := (((xN B n ((xN B n q)))))) w2161 g0 ⟨by decide, by decide⟩ a2871) (fun R3028 T3029 H3030 p3031 => ?_))
                  obtain ⟨e3032, e3034, e3033, p3035⟩ := p3031
                  subst e3032
                  subst e3033
                  subst e3034
                  show wp _ _ 196 135 [(4, vI v3001), (3, vI v3002), (2, vI z2867), (1, vI z2140), (0, .ref r0)] [] _ H2157 _
                  have u3037 := RO_k p3035
                  refine wp_of e196 c196_135 (rw_aload_n (pc' := 136) (v := .ref r0) rfl rfl rfl ?_)
                  refine wp_of e196 c196_136 (xc_V (pc' := 139) (r := r0) (as := []) (st := []) (lm_9_118) rfl rfl (Nat.le_of_ble_eq_true rfl) w2161 g0 sh_42 (by decide) rfl (by decide) (u_172_o (fo := (xk B n ((xN B n ((xN B n q)))) 4)) (po := (((xN B n ((xN B n q)))))) w2161 g0 p3035) (fun R3038 T3039 H3040 p3041 => ?_))
                  obtain ⟨e3042, e3044, e3043, p3045⟩ := p3041
                  subst e3042
                  subst e3043
                  subst e3044
                  show wp _ _ 196 139 [(4, vI v3001), (3, vI v3002), (2, vI z2867), (1, vI z2140), (0, .ref r0)] [] _ H2157 _
                  have u3047 := RO_k p3045
                  refine wp_of e196 c196_139 (rw_aload_n (pc' := 140) (v := .ref r0) rfl rfl rfl ?_)
                  refine wp_of e196 c196_140 (xg_I (pc' := 143) lf_9_75 w2161 g0 sh_42 (by decide) (by decide) ty_42_9 rfl rfl (fun b3048 b3049 => ?_))
                  refine wp_of e196 c196_143 (rw_iconst (pc' := 144) rfl ?_)
                  refine wp_of e196 c196_144 (rw_icmp_ne (p1 := 148) (p2 := 147) (by decide) rfl ⟨Int.le_trans (by decide) b3048, Int.le_trans b3049 (by decide)⟩ ⟨by decide, by decide⟩ (fun c3050 => ?_) (fun c3050 => ?_))
                  · exfalso
                    omega
                  · have o3051 : (xl3 B n q d) = (xk B n ((xN B n ((xN B n q)))) 4, ((xN B n ((xN B n q)))), ((xN B n ((xN B n q))))) := by
                      unfold xl3 xap
                      repeat first | rw [xs_0 (by omega -splitDisjunctions)] | rw [xs_1 (by omega -splitDisjunctions)] | rw [if_pos (by omega -splitDisjunctions)] | rw [if_neg (by omega -splitDisjunctions)] | rw [xs_0 (by omega)] | rw [xs_1 (by omega)] | rw [if_pos (by omega)] | rw [if_neg (by omega)]
                      first | done | rfl | assumption | (exfalso; omega -splitDisjunctions) | (refine Prod.ext ?_ (Prod.ext ?_ ?_) <;> (try dsimp only) <;> omega) | (exfalso; omega)
                    have o3051a : ((xl3 B n q d)).1 = xk B n ((xN B n ((xN B n q)))) 4 := by rw [o3051]
                    have o3051b : ((xl3 B n q d)).2.1 = ((xN B n ((xN B n q)))) := by rw [o3051]
                    have o3051c : ((xl3 B n q d)).2.2 = ((xN B n ((xN B n q)))) := by rw [o3051]
                    have h3052 : FZ T H2157 rp N0 H0 := (FZ_fr w2138 grp f2162 rfl (FZ_fr w2118 grp f2139 rfl (FZ_fr hW grp f2119 rfl hFZ_rp)))
                    exact wp_return e196 c196_147 rfl ⟨rfl, w2161, f2856, rfl, (Or.inr ⟨by omega, RO_eq p3045 (by omega) (by omega), h3052⟩)⟩
              · refine wp_of e196 c196_54 (rw_iload_n (pc' := 55) (z := v3002) rfl rfl ?_)
                refine wp_of e196 c196_55 (rw_if_ne (p1 := 114) (p2 := 58) (by decide) rfl ⟨Int.le_trans (by decide) b3006.1, Int.le_trans b3006.2 (by decide)⟩ (fun c3053 => ?_) (fun c3053 => ?_))
                · refine wp_of e196 c196_114 (rw_iconst (pc' := 115) rfl ?_)
                  refine wp_of e196 c196_115 (rw_goto (p1 := 119) (by decide) ?_)
                  refine wp_of e196 c196_119 (rw_istore_n (pc' := 120) (z := 1) (L' := [(3, vI 1), (4, vI v3001), (2, vI z2867), (1, vI z2140), (0, .ref r0)]) rfl rfl rfl ?_)
                  refine wp_of e196 c196_120 (rw_iinc (pc' := 123) (z := v3001) (L' := [(4, vI (v3001 + 1)), (3, vI 1), (2, vI z2867), (1, vI z2140), (0, .ref r0)]) rfl rfl rfl rfl ?_)
                  refine wp_of e196 c196_123 (rw_goto (p1 := 42) (by decide) ?_)
                  exact wp_lc (ks := [4, 3, 2, 1, 0]) (wl_c rfl (wl_c rfl (wl_c rfl (wl_c rfl (wl_c rfl wl_n))))) rfl (by decide) (ih3000 _ (by omega) (v3001 + 1) 1 ⟨by omega, by omega⟩ ⟨by decide, by decide⟩ rfl)
                · refine wp_of e196 c196_58 (rw_aload_n (pc' := 59) (v := .ref r0) rfl rfl rfl ?_)
                  refine wp_of e196 c196_59 (xg_K (pc' := 62) lf_9_166 w2161 g0 sh_42 (by decide) (by decide) rfl q2859 rfl ?_)
                  refine wp_of e196 c196_62 (xg_R (pc' := 65) lf_9_282 w2161 grp sh_54 (by decide) (by decide) ty_54_18 rfl rfl (fun r3054 q3055 g3056 => ?_))
                  refine wp_of e196 c196_65 (rw_iload (pc' := 67) (z := v3001) rfl rfl ?_)
                  refine wp_of e196 c196_67 (xa_I (so := 0) (pc' := 68) w2161 g3056 sh_64 (by decide) (ty_64 _) (b3005.1) (by omega) rfl (fun b3057 b3058 => ?_))
                  have h3059 : MA18 T H2157 rp (d 10) := (MA18_fr w2138 grp f2162 rfl (MA18_fr w2118 grp f2139 rfl (MA18_fr hW grp f2119 rfl h2102)))
                  have := MA_at h3059 q3055 (k := (v3001.toNat)) (by omega)
                  refine wp_of e196 c196_68 (rw_iload_n (pc' := 69) (z := z2140) rfl rfl ?_)
                  refine wp_of e196 c196_69 (rw_icmp_ne (p1 := 86) (p2 := 72) (by decide) rfl ⟨Int.le_trans (by decide) b3057, Int.le_trans b3058 (by decide)⟩ ⟨Int.le_trans (by decide) b2141.1, Int.le_trans b2141.2 (by decide)⟩ (fun c3060 => ?_) (fun c3060 => ?_))
                  · refine wp_of e196 c196_86 (rw_aload_n (pc' := 87) (v := .ref r0) rfl rfl rfl ?_)
                    refine wp_of e196 c196_87 (xg_K (pc' := 90) lf_9_166 w2161 g0 sh_42 (by decide) (by decide) rfl q2859 rfl ?_)
                    refine wp_of e196 c196_90 (xg_K (pc' := 93) lf_9_282 w2161 grp sh_54 (by decide) (by decide) rfl q3055 rfl ?_)
                    refine wp_of e196 c196_93 (rw_iload (pc' := 95) (z := v3001) rfl rfl ?_)
                    refine wp_of e196 c196_95 (xa_I (so := 0) (pc' := 96) w2161 g3056 sh_64 (by decide) (ty_64 _) (b3005.1) (by omega) rfl (fun b3061 b3062 => ?_))
                    have := MA_at h3059 q3055 (k := (v3001.toNat)) (by omega)
                    refine wp_of e196 c196_96 (rw_iload_n (pc' := 97) (z := z2867) rfl rfl ?_)
                    refine wp_of e196 c196_97 (rw_icmp_ne (p1 := 118) (p2 := 100) (by decide) rfl ⟨Int.le_trans (by decide) b3061, Int.le_trans b3062 (by decide)⟩ ⟨Int.le_trans (by decide) b2868.1, Int.le_trans b2868.2 (by decide)⟩ (fun c3063 => ?_) (fun c3063 => ?_))
                    · refine wp_of e196 c196_118 (rw_iconst (pc' := 119) rfl ?_)
                      refine wp_of e196 c196_119 (rw_istore_n (pc' := 120) (z := 0) (L' := [(3, vI 0), (4, vI v3001), (2, vI z2867), (1, vI z2140), (0, .ref r0)]) rfl rfl rfl ?_)
                      refine wp_of e196 c196_120 (rw_iinc (pc' := 123) (z := v3001) (L' := [(4, vI (v3001 + 1)), (3, vI 0), (2, vI z2867), (1, vI z2140), (0, .ref r0)]) rfl rfl rfl rfl ?_)
                      refine wp_of e196 c196_123 (rw_goto (p1 := 42) (by decide) ?_)
                      exact wp_lc (ks := [4, 3, 2, 1, 0]) (wl_c rfl (wl_c rfl (wl_c rfl (wl_c rfl (wl_c rfl wl_n))))) rfl (by decide) (ih3000 _ (by omega) (v3001 + 1) 0 ⟨by omega, by omega⟩ ⟨by decide, by decide⟩ rfl)
                    · refine wp_of e196 c196_100 (rw_aload_n (pc' := 101) (v := .ref r0) rfl rfl rfl ?_)
                      refine wp_of e196 c196_101 (xg_K (pc' := 104) lf_9_166 w2161 g0 sh_42 (by decide) (by decide) rfl q2859 rfl ?_)
                      refine wp_of e196 c196_104 (xg_R (pc' := 107) lf_9_285 w2161 grp sh_54 (by decide) (by decide) ty_54_19 rfl rfl (fun r3064 q3065 g3066 => ?_))
                      refine wp_of e196 c196_107 (rw_iload (pc' := 109) (z := v3001) rfl rfl ?_)
                      refine wp_of e196 c196_109 (xa_I (so := 0) (pc' := 110) w2161 g3066 sh_65 (by decide) (ty_65 _) (b3005.1) (by omega) rfl (fun b3067 b3068 => ?_))
                      have h3069 : MA19 T H2157 rp (d 11) := (MA19_fr w2138 grp f2162 rfl (MA19_fr w2118 grp f2139 rfl (MA19_fr hW grp f2119 rfl h2103)))
                      have := MA_at h3069 q3065 (k := (v3001.toNat)) (by omega)
                      refine wp_of e196 c196_110 (rw_iload_n (pc' := 111) (z := z2140) rfl rfl ?_)
                      refine wp_of e196 c196_111 (rw_icmp_ne (p1 := 118) (p2 := 114) (by decide) rfl ⟨Int.le_trans (by decide) b3067, Int.le_trans b3068 (by decide)⟩ ⟨Int.le_trans (by decide) b2141.1, Int.le_trans b2141.2 (by decide)⟩ (fun c3070 => ?_) (fun c3070 => ?_))
                      · refine wp_of e196 c196_118 (rw_iconst (pc' := 119) rfl ?_)
                        refine wp_of e196 c196_119 (rw_istore_n (pc' := 120) (z := 0) (L' := [(3, vI 0), (4, vI v3001), (2, vI z2867), (1, vI z2140), (0, .ref r0)]) rfl rfl rfl ?_)
                        refine wp_of e196 c196_120 (rw_iinc (pc' := 123) (z := v3001) (L' := [(4, vI (v3001 + 1)), (3, vI 0), (2, vI z2867), (1, vI z2140), (0, .ref r0)]) rfl rfl rfl rfl ?_)
                        refine wp_of e196 c196_123 (rw_goto (p1 := 42) (by decide) ?_)
                        exact wp_lc (ks := [4, 3, 2, 1, 0]) (wl_c rfl (wl_c rfl (wl_c rfl (wl_c rfl (wl_c rfl wl_n))))) rfl (by decide) (ih3000 _ (by omega) (v3001 + 1) 0 ⟨by omega, by omega⟩ ⟨by decide, by decide⟩ rfl)
                      · refine wp_of e196 c196_114 (rw_iconst (pc' := 115) rfl ?_)
                        refine wp_of e196 c196_115 (rw_goto (p1 := 119) (by decide) ?_)
                        refine wp_of e196 c196_119 (rw_istore_n (pc' := 120) (z := 1) (L' := [(3, vI 1), (4, vI v3001), (2, vI z2867), (1, vI z2140), (0, .ref r0)]) rfl rfl rfl ?_)
                        refine wp_of e196 c196_120 (rw_iinc (pc' := 123) (z := v3001) (L' := [(4, vI (v3001 + 1)), (3, vI 1), (2, vI z2867), (1, vI z2140), (0, .ref r0)]) rfl rfl rfl rfl ?_)
                        refine wp_of e196 c196_123 (rw_goto (p1 := 42) (by decide) ?_)
                        exact wp_lc (ks := [4, 3, 2, 1, 0]) (wl_c rfl (wl_c rfl (wl_c rfl (wl_c rfl (wl_c rfl wl_n))))) rfl (by decide) (ih3000 _ (by omega) (v3001 + 1) 1 ⟨by omega, by omega⟩ ⟨by decide, by decide⟩ rfl)
                  · refine wp_of e196 c196_72 (rw_aload_n (pc' := 73) (v := .ref r0) rfl rfl rfl ?_)
                    refine wp_of e196 c196_73 (xg_K (pc' := 76) lf_9_166 w2161 g0 sh_42 (by decide) (by decide) rfl q2859 rfl ?_)
                    refine wp_of e196 c196_76 (xg_R (pc' := 79) lf_9_285 w2161 grp sh_54 (by decide) (by decide) ty_54_19 rfl rfl (fun r3071 q3072 g3073 => ?_))
                    refine wp_of e196 c196_79 (rw_iload (pc' := 81) (z := v3001) rfl rfl ?_)
                    refine wp_of e196 c196_81 (xa_I (so := 0) (pc' := 82) w2161 g3073 sh_65 (by decide) (ty_65 _) (b3005.1) (by omega) rfl (fun b3074 b3075 => ?_))
                    have h3076 : MA19 T H2157 rp (d 11) := (MA19_fr w2138 grp f2162 rfl (MA19_fr w2118 grp f2139 rfl (MA19_fr hW grp f2119 rfl h2103)))
                    have := MA_at h3076 q3072 (k := (v3001.toNat)) (by omega)
                    refine wp_of e196 c196_82 (rw_iload_n (pc' := 83) (z := z2867) rfl rfl ?_)
                    refine wp_of e196 c196_83 (rw_icmp_eq (p1 := 114) (p2 := 86) (by decide) rfl ⟨Int.le_trans (by decide) b3074, Int.le_trans b3075 (by decide)⟩ ⟨Int.le_trans (by decide) b2868.1, Int.le_trans b2868.2 (by decide)⟩ (fun c3077 => ?_) (fun c3077 => ?_))
                    · refine wp_of e196 c196_114 (rw_iconst (pc' := 115) rfl ?_)
                      refine wp_of e196 c196_115 (rw_goto (p1 := 119) (by decide) ?_)
                      refine wp_of e196 c196_119 (rw_istore_n (pc' := 120) (z := 1) (L' := [(3, vI 1), (4, vI v3001), (2, vI z2867), (1, vI z2140), (0, .ref r0)]) rfl rfl rfl ?_)
                      refine wp_of e196 c196_120 (rw_iinc (pc' := 123) (z := v3001) (L' := [(4, vI (v3001 + 1)), (3, vI 1), (2, vI z2867), (1, vI z2140), (0, .ref r0)]) rfl rfl rfl rfl ?_)
                      refine wp_of e196 c196_123 (rw_goto (p1 := 42) (by decide) ?_)
                      exact wp_lc (ks := [4, 3, 2, 1, 0]) (wl_c rfl (wl_c rfl (wl_c rfl (wl_c rfl (wl_c rfl wl_n))))) rfl (by decide) (ih3000 _ (by omega) (v3001 + 1) 1 ⟨by omega, by omega⟩ ⟨by decide, by decide⟩ rfl)
                    · refine wp_of e196 c196_86 (rw_aload_n (pc' := 87) (v := .ref r0) rfl rfl rfl ?_)
                      refine wp_of e196 c196_87 (xg_K (pc' := 90) lf_9_166 w2161 g0 sh_42 (by decide) (by decide) rfl q2859 rfl ?_)
                      refine wp_of e196 c196_90 (xg_K (pc' := 93) lf_9_282 w2161 grp sh_54 (by decide) (by decide) rfl q3055 rfl ?_)
                      refine wp_of e196 c196_93 (rw_iload (pc' := 95) (z := v3001) rfl rfl ?_)
                      refine wp_of e196 c196_95 (xa_I (so := 0) (pc' := 96) w2161 g3056 sh_64 (by decide) (ty_64 _) (b3005.1) (by omega) rfl (fun b3078 b3079 => ?_))
                      have := MA_at h3059 q3055 (k := (v3001.toNat)) (by omega)
                      refine wp_of e196 c196_96 (rw_iload_n (pc' := 97) (z := z2867) rfl rfl ?_)
                      refine wp_of e196 c196_97 (rw_icmp_ne (p1 := 118) (p2 := 100) (by decide) rfl ⟨Int.le_trans (by decide) b3078, Int.le_trans b3079 (by decide)⟩ ⟨Int.le_trans (by decide) b2868.1, Int.le_trans b2868.2 (by decide)⟩ (fun c3080 => ?_) (fun c3080 => ?_))
                      · refine wp_of e196 c196_118 (rw_iconst (pc' := 119) rfl ?_)
                        refine wp_of e196 c196_119 (rw_istore_n (pc' := 120) (z := 0) (L' := [(3, vI 0), (4, vI v3001), (2, vI z2867), (1, vI z2140), (0, .ref r0)]) rfl rfl rfl ?_)
                        refine wp_of e196 c196_120 (rw_iinc (pc' := 123) (z := v3001) (L' := [(4, vI (v3001 + 1)), (3, vI 0), (2, vI z2867), (1, vI z2140), (0, .ref r0)]) rfl rfl rfl rfl ?_)
                        refine wp_of e196 c196_123 (rw_goto (p1 := 42) (by decide) ?_)
                        exact wp_lc (ks := [4, 3, 2, 1, 0]) (wl_c rfl (wl_c rfl (wl_c rfl (wl_c rfl (wl_c rfl wl_n))))) rfl (by decide) (ih3000 _ (by omega) (v3001 + 1) 0 ⟨by omega, by omega⟩ ⟨by decide, by decide⟩ rfl)
                      · exfalso
                        omega
          exact wp_lc (ks := [4, 3, 2, 1, 0]) (wl_c rfl (wl_c rfl (wl_c rfl (wl_c rfl (wl_c rfl wl_n))))) rfl (by decide) (lp2998 _ 0 0 ⟨by decide, by decide⟩ ⟨by decide, by decide⟩ rfl)
        · refine wp_of e196 c196_33 (rw_iconst (pc' := 34) rfl ?_)
          refine wp_of e196 c196_34 (rw_goto (p1 := 38) (by decide) ?_)
          refine wp_of e196 c196_38 (rw_istore_n (pc' := 39) (z := 1) (L' := [(3, vI 1), (2, vI z2867), (1, vI z2140), (0, .ref r0)]) rfl rfl rfl ?_)
          refine wp_of e196 c196_39 (rw_iconst (pc' := 40) rfl ?_)
          refine wp_of e196 c196_40 (rw_istore (pc' := 42) (z := 0) (L' := [(4, vI 0), (3, vI 1), (2, vI z2867), (1, vI z2140), (0, .ref r0)]) rfl rfl rfl ?_)
          have lp3109 : ∀ (n3110 : Nat) (v3112 : Int) (v3113 : Int), (0 ≤ v3112 ∧ v3112 ≤ 3) → (1 ≤ v3113 ∧ v3113 ≤ 1) → (3 - v3112).toNat = n3110 → wp kt 5 196 42 [(4, vI v3112), (3, vI v3113), (2, vI z2867), (1, vI z2140), (0, .ref r0)] [] T H2157 (uq_196_k r0 rp rb B n q d N0 H0 T H) := by
            intro n3110
            induction n3110 using Nat.strongRecOn with
            | _ n3110 ih3111 =>
              intro v3112 v3113 b3116 b3117 m3118
              refine wp_of e196 c196_42 (rw_iload (pc' := 44) (z := v3112) rfl rfl ?_)
              refine wp_of e196 c196_44 (rw_aload_n (pc' := 45) (v := .ref r0) rfl rfl rfl ?_)
              refine wp_of e196 c196_45 (xg_K (pc' := 48) lf_9_166 w2161 g0 sh_42 (by decide) (by decide) rfl q2859 rfl ?_)
              have k3119 : H2157 rp 4 = H rp 4 := ((f2162 rp 4 _ grp rfl).trans ((f2139 rp 4 _ grp rfl).trans (f2119 rp 4 _ grp rfl)))
              refine wp_of e196 c196_48 (xg_I (pc' := 51) lf_9_276 w2161 grp sh_54 (by decide) (by decide) ty_54_4 rfl rfl (fun b3120 b3121 => ?_))
              refine wp_of e196 c196_51 (rw_icmp_ge (p1 := 126) (p2 := 54) (by decide) rfl ⟨Int.le_trans (by decide) b3116.1, Int.le_trans b3116.2 (by decide)⟩ ⟨Int.le_trans (by decide) b3120, Int.le_trans b3121 (by decide)⟩ (fun c3122 => ?_) (fun c3122 => ?_))
              · refine wp_of e196 c196_126 (rw_iload_n (pc' := 127) (z := v3113) rfl rfl ?_)
                refine wp_of e196 c196_127 (rw_if_eq (p1 := 135) (p2 := 130) (by decide) rfl ⟨Int.le_trans (by decide) b3117.1, Int.le_trans b3117.2 (by decide)⟩ (fun c3123 => ?_) (fun c3123 => ?_))
                · exfalso
                  omega
                · refine wp_of e196 c196_130 (rw_aload_n (pc' := 131) (v := .ref r0) rfl rfl rfl ?_)
                  refine wp_of e196 c196_131 (rw_iconst (pc' := 132) rfl ?_)
                  refine wp_of e196 c196_132 (xc_V (pc' := 135) (r := r0) (as := [vI 3]) (st := []) (lm_9_121) rfl rfl (Nat.le_of_ble_eq_true rfl) w2161 g0 sh_42 (by decide) rfl (by decide) (u_181_o (fo := (xk B n ((xN B n ((xN B n q)))) 4)) (po := (((xN B n ((xN B n q)))))) w2161 g0 ⟨by decide, by decide⟩ a2871) (fun R3124 T3125 H3126 p3127 => ?_))
                  obtain ⟨e3128, e3130, e3129, p3131⟩ := p3127
                  subst e3128
                  subst e3129
                  subst e3130
                  show wp _ _ 196 135 [(4, vI v3112), (3, vI v3113), (2, vI z2867), (1, vI z2140), (0, .ref r0)] [] _ H2157 _
                  have u3133 := RO_k p3131
                  refine wp_of e196 c196_135 (rw_aload_n (pc' := 136) (v := .ref r0) rfl rfl rfl ?_)
                  refine wp_of e196 c196_136 (xc_V (pc' := 139) (r := r0) (as := []) (st := []) (lm_9_118) rfl rfl (Nat.le_of_ble_eq_true rfl) w2161 g0 sh_42 (by decide) rfl (by decide) (u_172_o (fo := (xk B n ((xN B n ((xN B n q)))) 4)) (po := (((xN B n ((xN B n q)))))) w2161 g0 p3131) (fun R3134 T3135 H3136 p3137 => ?_))
                  obtain ⟨e3138, e3140, e3139, p3141⟩ := p3137
                  subst e3138
                  subst e3139
                  subst e3140
                  show wp _ _ 196 139 [(4, vI v3112), (3, vI v3113), (2, vI z2867), (1, vI z2140), (0, .ref r0)] [] _ H2157 _
                  have u3143 := RO_k p3141
                  refine wp_of e196 c196_139 (rw_aload_n (pc' := 140) (v := .ref r0) rfl rfl rfl ?_)
                  refine wp_of e196 c196_140 (xg_I (pc' := 143) lf_9_75 w2161 g0 sh_42 (by decide) (by decide) ty_42_9 rfl rfl (fun b3144 b3145 => ?_))
                  refine wp_of e196 c196_143 (rw_iconst (pc' := 144) rfl ?_)
                  refine wp_of e196 c196_144 (rw_icmp_ne (p1 := 148) (p2 := 147) (by decide) rfl ⟨Int.le_trans (by decide) b3144, Int.le_trans b3145 (by decide)⟩ ⟨by decide, by decide⟩ (fun c3146 => ?_) (fun c3146 => ?_))
                  · exfalso
                    omega
                  · have o3147 : (xl3 B n q d) = (xk B n ((xN B n ((xN B n q)))) 4, ((xN B n ((xN B n q)))), ((xN B n ((xN B n q))))) := by
                      unfold xl3 xap
                      repeat first | rw [xs_0 (by omega -splitDisjunctions)] | rw [xs_1 (by omega -splitDisjunctions)] | rw [if_pos (by omega -splitDisjunctions)] | rw [if_neg (by omega -splitDisjunctions)] | rw [xs_0 (by omega)] | rw [xs_1 (by omega)] | rw [if_pos (by omega)] | rw [if_neg (by omega)]
                      first | done | rfl | assumption | (exfalso; omega -splitDisjunctions) | (refine Prod.ext ?_ (Prod.ext ?_ ?_) <;> (try dsimp only) <;> omega) | (exfalso; omega)
                    have o3147a : ((xl3 B n q d)).1 = xk B n ((xN B n ((xN B n q)))) 4 := by rw [o3147]
                    have o3147b : ((xl3 B n q d)).2.1 = ((xN B n ((xN B n q)))) := by rw [o3147]
                    have o3147c : ((xl3 B n q d)).2.2 = ((xN B n ((xN B n q)))) := by rw [o3147]
                    have h3148 : FZ T H2157 rp N0 H0 := (FZ_fr w2138 grp f2162 rfl (FZ_fr w2118 grp f2139 rfl (FZ_fr hW grp f2119 rfl hFZ_rp)))
                    exact wp_return e196 c196_147 rfl ⟨rfl, w2161, f2856, rfl, (Or.inr ⟨by omega, RO_eq p3141 (by omega) (by omega), h3148⟩)⟩
              · refine wp_of e196 c196_54 (rw_iload_n (pc' := 55) (z := v3113) rfl rfl ?_)
                refine wp_of e196 c196_55 (rw_if_ne (p1 := 114) (p2 := 58) (by decide) rfl ⟨Int.le_trans (by decide) b3117.1, Int.le_trans b3117.2 (by decide)⟩ (fun c3149 => ?_) (fun c3149 => ?_))
                · refine wp_of e196 c196_114 (rw_iconst (pc' := 115) rfl ?_)
                  refine wp_of e196 c196_115 (rw_goto (p1 := 119) (by decide) ?_)
                  refine wp_of e196 c196_119 (rw_istore_n (pc' := 120) (z := 1) (L' := [(3, vI 1), (4, vI v3112), (2, vI z2867), (1, vI z2140), (0, .ref r0)]) rfl rfl rfl ?_)
                  refine wp_of e196 c196_120 (rw_iinc (pc' := 123) (z := v3112) (L' := [(4, vI (v3112 + 1)), (3, vI 1), (2, vI z2867), (1, vI z2140), (0, .ref r0)]) rfl rfl rfl rfl ?_)
                  refine wp_of e196 c196_123 (rw_goto (p1 := 42) (by decide) ?_)
                  exact wp_lc (ks := [4, 3, 2, 1, 0]) (wl_c rfl (wl_c rfl (wl_c rfl (wl_c rfl (wl_c rfl wl_n))))) rfl (by decide) (ih3111 _ (by omega) (v3112 + 1) 1 ⟨by omega, by omega⟩ ⟨by decide, by decide⟩ rfl)
                · exfalso
                  omega
          exact wp_lc (ks := [4, 3, 2, 1, 0]) (wl_c rfl (wl_c rfl (wl_c rfl (wl_c rfl (wl_c rfl wl_n))))) rfl (by decide) (lp3109 _ 0 1 ⟨by decide, by decide⟩ ⟨by decide, by decide⟩ rfl)
    · have f3150 := f2125.tr f2139 rfl
      show wp _ _ 196 16 [(0, .ref r0)] [vI z2140] _ H2134 _
      have u3151 := RO_k a2150
      refine wp_of e196 c196_16 (rw_istore_n (pc' := 17) (z := z2140) (L' := [(1, vI z2140), (0, .ref r0)]) rfl rfl rfl ?_)
      refine wp_of e196 c196_17 (rw_aload_n (pc' := 18) (v := .ref r0) rfl rfl rfl ?_)
      refine wp_of e196 c196_18 (rw_bipush (pc' := 20) (z := 44) rfl (by decide) ?_)
      have k3152 : H2134 r0 5 = H2114 r0 5 := (f2139 r0 5 _ g0 rfl)
      have q3153 : H2134 r0 5 = (rb : Int) := k3152.trans q2130
      refine wp_of e196 c196_20 (xc_V (pc' := 23) (r := r0) (as := [vI 44]) (st := []) (lm_9_279) rfl rfl (Nat.le_of_ble_eq_true rfl) w2138 g0 sh_42 (by decide) rfl (by decide) (u_197_o (fo := (xkn B n ((xN B n q)) d)) (po := (((xN B n q)))) w2138 g0 ⟨by decide, by decide⟩ q3153 grb a2150) (fun R3154 T3155 H3156 p3157 => ?_))
      obtain ⟨e3158, e3160, e3159, p3161⟩ := p3157
      subst e3158
      subst e3159
      subst e3160
      show wp _ _ 196 23 [(1, vI z2140), (0, .ref r0)] [] _ H2134 _
      have u3163 := RO_k p3161
      refine wp_of e196 c196_23 (rw_aload_n (pc' := 24) (v := .ref r0) rfl rfl rfl ?_)
      have k3164 : H2134 r0 4 = H2114 r0 4 := (f2139 r0 4 _ g0 rfl)
      have q3165 : H2134 r0 4 = (rp : Int) := k3164.trans q2128
      refine wp_of e196 c196_24 (xc_V (pc' := 27) (r := r0) (as := []) (st := []) (lm_9_176) rfl rfl (Nat.le_of_ble_eq_true rfl) w2138 g0 sh_42 (by decide) rfl (by decide) (u_195_o (fo := (xkn B n ((xN B n q)) d)) (po := (((xN B n q)))) w2138 g0 q3165 grp p3161) (fun R3166 T3167 H3168 p3169 => ?_))
      obtain ⟨e3170, e3172, z3173, e3171, b3174, p3175⟩ := p3169
      subst e3170
      subst e3171
      subst e3172
      obtain ⟨a3176, a3177⟩ := p3175
      show wp _ _ 196 27 [(1, vI z2140), (0, .ref r0)] [vI z3173] _ H2134 _
      have u3178 := RO_k a3177
      refine wp_of e196 c196_27 (rw_istore_n (pc' := 28) (z := z3173) (L' := [(2, vI z3173), (1, vI z2140), (0, .ref r0)]) rfl rfl rfl ?_)
      refine wp_of e196 c196_28 (rw_iload_n (pc' := 29) (z := z2140) rfl rfl ?_)
      refine wp_of e196 c196_29 (rw_iload_n (pc' := 30) (z := z3173) rfl rfl ?_)
      refine wp_of e196 c196_30 (rw_icmp_ne (p1 := 37) (p2 := 33) (by decide) rfl ⟨Int.le_trans (by decide) b2141.1, Int.le_trans b2141.2 (by decide)⟩ ⟨Int.le_trans (by decide) b3174.1, Int.le_trans b3174.2 (by decide)⟩ (fun c3179 => ?_) (fun c3179 => ?_))
      · exfalso
        omega
      · refine wp_of e196 c196_33 (rw_iconst (pc' := 34) rfl ?_)
        refine wp_of e196 c196_34 (rw_goto (p1 := 38) (by decide) ?_)
        refine wp_of e196 c196_38 (rw_istore_n (pc' := 39) (z := 1) (L' := [(3, vI 1), (2, vI z3173), (1, vI z2140), (0, .ref r0)]) rfl rfl rfl ?_)
        refine wp_of e196 c196_39 (rw_iconst (pc' := 40) rfl ?_)
        refine wp_of e196 c196_40 (rw_istore (pc' := 42) (z := 0) (L' := [(4, vI 0), (3, vI 1), (2, vI z3173), (1, vI z2140), (0, .ref r0)]) rfl rfl rfl ?_)
        have lp3208 : ∀ (n3209 : Nat) (v3211 : Int) (v3212 : Int), (0 ≤ v3211 ∧ v3211 ≤ 3) → (1 ≤ v3212 ∧ v3212 ≤ 1) → (3 - v3211).toNat = n3209 → wp kt 5 196 42 [(4, vI v3211), (3, vI v3212), (2, vI z3173), (1, vI z2140), (0, .ref r0)] [] T H2134 (uq_196_k r0 rp rb B n q d N0 H0 T H) := by
          intro n3209
          induction n3209 using Nat.strongRecOn with
          | _ n3209 ih3210 =>
            intro v3211 v3212 b3215 b3216 m3217
            refine wp_of e196 c196_42 (rw_iload (pc' := 44) (z := v3211) rfl rfl ?_)
            refine wp_of e196 c196_44 (rw_aload_n (pc' := 45) (v := .ref r0) rfl rfl rfl ?_)
            refine wp_of e196 c196_45 (xg_K (pc' := 48) lf_9_166 w2138 g0 sh_42 (by decide) (by decide) rfl q3165 rfl ?_)
            have k3218 : H2134 rp 4 = H rp 4 := ((f2139 rp 4 _ grp rfl).trans (f2119 rp 4 _ grp rfl))
            refine wp_of e196 c196_48 (xg_I (pc' := 51) lf_9_276 w2138 grp sh_54 (by decide) (by decide) ty_54_4 rfl rfl (fun b3219 b3220 => ?_))
            refine wp_of e196 c196_51 (rw_icmp_ge (p1 := 126) (p2 := 54) (by decide) rfl ⟨Int.le_trans (by decide) b3215.1, Int.le_trans b3215.2 (by decide)⟩ ⟨Int.le_trans (by decide) b3219, Int.le_trans b3220 (by decide)⟩ (fun c3221 => ?_) (fun c3221 => ?_))
            · refine wp_of e196 c196_126 (rw_iload_n (pc' := 127) (z := v3212) rfl rfl ?_)
              refine wp_of e196 c196_127 (rw_if_eq (p1 := 135) (p2 := 130) (by decide) rfl ⟨Int.le_trans (by decide) b3216.1, Int.le_trans b3216.2 (by decide)⟩ (fun c3222 => ?_) (fun c3222 => ?_))
              · exfalso
                omega
              · refine wp_of e196 c196_130 (rw_aload_n (pc' := 131) (v := .ref r0) rfl rfl rfl ?_)
                refine wp_of e196 c196_131 (rw_iconst (pc' := 132) rfl ?_)
                refine wp_of e196 c196_132 (xc_V (pc' := 135) (r := r0) (as := [vI 3]) (st := []) (lm_9_121) rfl rfl (Nat.le_of_ble_eq_true rfl) w2138 g0 sh_42 (by decide) rfl (by decide) (u_181_o (fo := (xkn B n ((xN B n q)) d)) (po := (((xN B n q)))) w2138 g0 ⟨by decide, by decide⟩ a3177) (fun R3223 T3224 H3225 p3226 => ?_))
                obtain ⟨e3227, e3229, e3228, p3230⟩ := p3226
                subst e3227
                subst e3228
                subst e3229
                show wp _ _ 196 135 [(4, vI v3211), (3, vI v3212), (2, vI z3173), (1, vI z2140), (0, .ref r0)] [] _ H2134 _
                have u3232 := RO_k p3230
                refine wp_of e196 c196_135 (rw_aload_n (pc' := 136) (v := .ref r0) rfl rfl rfl ?_)
                refine wp_of e196 c196_136 (xc_V (pc' := 139) (r := r0) (as := []) (st := []) (lm_9_118) rfl rfl (Nat.le_of_ble_eq_true rfl) w2138 g0 sh_42 (by decide) rfl (by decide) (u_172_o (fo := (xkn B n ((xN B n q)) d)) (po := (((xN B n q)))) w2138 g0 p3230) (fun R3233 T3234 H3235 p3236 => ?_))
                obtain ⟨e3237, e3239, e3238, p3240⟩ := p3236
                subst e3237
                subst e3238
                subst e3239
                show wp _ _ 196 139 [(4, vI v3211), (3, vI v3212), (2, vI z3173), (1, vI z2140), (0, .ref r0)] [] _ H2134 _
                have u3242 := RO_k p3240
                refine wp_of e196 c196_139 (rw_aload_n (pc' := 140) (v := .ref r0) rfl rfl rfl ?_)
                refine wp_of e196 c196_140 (xg_I (pc' := 143) lf_9_75 w2138 g0 sh_42 (by decide) (by decide) ty_42_9 rfl rfl (fun b3243 b3244 => ?_))
                refine wp_of e196 c196_143 (rw_iconst (pc' := 144) rfl ?_)
                refine wp_of e196 c196_144 (rw_icmp_ne (p1 := 148) (p2 := 147) (by decide) rfl ⟨Int.le_trans (by decide) b3243, Int.le_trans b3244 (by decide)⟩ ⟨by decide, by decide⟩ (fun c3245 => ?_) (fun c3245 => ?_))
                · exfalso
                  omega
                · have o3246 : (xl3 B n q d) = (xkn B n ((xN B n q)) d, ((xN B n q)), ((xN B n q))) := by
                    unfold xl3 xap
                    repeat first | rw [xs_0 (by omega -splitDisjunctions)] | rw [xs_1 (by omega -splitDisjunctions)] | rw [if_pos (by omega -splitDisjunctions)] | rw [if_neg (by omega -splitDisjunctions)] | rw [xs_0 (by omega)] | rw [xs_1 (by omega)] | rw [if_pos (by omega)] | rw [if_neg (by omega)]
                    first | done | rfl | assumption | (exfalso; omega -splitDisjunctions) | (refine Prod.ext ?_ (Prod.ext ?_ ?_) <;> (try dsimp only) <;> omega) | (exfalso; omega)
                  have o3246a : ((xl3 B n q d)).1 = xkn B n ((xN B n q)) d := by rw [o3246]
                  have o3246b : ((xl3 B n q d)).2.1 = ((xN B n q)) := by rw [o3246]
                  have o3246c : ((xl3 B n q d)).2.2 = ((xN B n q)) := by rw [o3246]
                  have h3247 : FZ T H2134 rp N0 H0 := (FZ_fr w2118 grp f2139 rfl (FZ_fr hW grp f2119 rfl hFZ_rp))
                  exact wp_return e196 c196_147 rfl ⟨rfl, w2138, f3150, rfl, (Or.inr ⟨by omega, RO_eq p3240 (by omega) (by omega), h3247⟩)⟩
            · refine wp_of e196 c196_54 (rw_iload_n (pc' := 55) (z := v3212) rfl rfl ?_)
              refine wp_of e196 c196_55 (rw_if_ne (p1 := 114) (p2 := 58) (by decide) rfl ⟨Int.le_trans (by decide) b3216.1, Int.le_trans b3216.2 (by decide)⟩ (fun c3248 => ?_) (fun c3248 => ?_))
              · refine wp_of e196 c196_114 (rw_iconst (pc' := 115) rfl ?_)
                refine wp_of e196 c196_115 (rw_goto (p1 := 119) (by decide) ?_)
                refine wp_of e196 c196_119 (rw_istore_n (pc' := 120) (z := 1) (L' := [(3, vI 1), (4, vI v3211), (2, vI z3173), (1, vI z2140), (0, .ref r0)]) rfl rfl rfl ?_)
                refine wp_of e196 c196_120 (rw_iinc (pc' := 123) (z := v3211) (L' := [(4, vI (v3211 + 1)), (3, vI 1), (2, vI z3173), (1, vI z2140), (0, .ref r0)]) rfl rfl rfl rfl ?_)
                refine wp_of e196 c196_123 (rw_goto (p1 := 42) (by decide) ?_)
                exact wp_lc (ks := [4, 3, 2, 1, 0]) (wl_c rfl (wl_c rfl (wl_c rfl (wl_c rfl (wl_c rfl wl_n))))) rfl (by decide) (ih3210 _ (by omega) (v3211 + 1) 1 ⟨by omega, by omega⟩ ⟨by decide, by decide⟩ rfl)
              · exfalso
                omega
        exact wp_lc (ks := [4, 3, 2, 1, 0]) (wl_c rfl (wl_c rfl (wl_c rfl (wl_c rfl (wl_c rfl wl_n))))) rfl (by decide) (lp3208 _ 0 1 ⟨by decide, by decide⟩ ⟨by decide, by decide⟩ rfl)
  · have f3249 := f0.tr f2119 rfl
    show wp _ _ 196 12 [(0, .ref r0)] [] _ H2114 _
    have u3250 := RO_k a2124
    refine wp_of e196 c196_12 (rw_aload_n (pc' := 13) (v := .ref r0) rfl rfl rfl ?_)
    have k3251 : H2114 r0 4 = H r0 4 := (f2119 r0 4 _ g0 rfl)
    have q3252 : H2114 r0 4 = (rp : Int) := k3251.trans qrp
    have k3253 : H2114 r0 5 = H r0 5 := (f2119 r0 5 _ g0 rfl)
    have q3254 : H2114 r0 5 = (rb : Int) := k3253.trans qrb
    refine wp_of e196 c196_13 (xc_V (pc' := 16) (r := r0) (as := []) (st := []) (lm_9_273) rfl rfl (Nat.le_of_ble_eq_true rfl) w2118 g0 sh_42 (by decide) rfl (by decide) (u_194_o (fo := 5) (po := q) w2118 g0 q3252 grp q3254 grb a2124) (fun R3255 T3256 H3257 p3258 => ?_))
    obtain ⟨e3259, e3261, z3262, e3260, b3263, p3264⟩ := p3258
    subst e3259
    subst e3260
    subst e3261
    obtain ⟨a3265, a3266⟩ := p3264
    show wp _ _ 196 16 [(0, .ref r0)] [vI z3262] _ H2114 _
    have u3267 := RO_k a3266
    refine wp_of e196 c196_16 (rw_istore_n (pc' := 17) (z := z3262) (L' := [(1, vI z3262), (0, .ref r0)]) rfl rfl rfl ?_)
    refine wp_of e196 c196_17 (rw_aload_n (pc' := 18) (v := .ref r0) rfl rfl rfl ?_)
    refine wp_of e196 c196_18 (rw_bipush (pc' := 20) (z := 44) rfl (by decide) ?_)
    refine wp_of e196 c196_20 (xc_V (pc' := 23) (r := r0) (as := [vI 44]) (st := []) (lm_9_279) rfl rfl (Nat.le_of_ble_eq_true rfl) w2118 g0 sh_42 (by decide) rfl (by decide) (u_197_o (fo := 5) (po := q) w2118 g0 ⟨by decide, by decide⟩ q3254 grb a3266) (fun R3268 T3269 H3270 p3271 => ?_))
    obtain ⟨e3272, e3274, e3273, p3275⟩ := p3271
    subst e3272
    subst e3273
    subst e3274
    show wp _ _ 196 23 [(1, vI z3262), (0, .ref r0)] [] _ H2114 _
    have u3277 := RO_k p3275
    refine wp_of e196 c196_23 (rw_aload_n (pc' := 24) (v := .ref r0) rfl rfl rfl ?_)
    refine wp_of e196 c196_24 (xc_V (pc' := 27) (r := r0) (as := []) (st := []) (lm_9_176) rfl rfl (Nat.le_of_ble_eq_true rfl) w2118 g0 sh_42 (by decide) rfl (by decide) (u_195_o (fo := 5) (po := q) w2118 g0 q3252 grp p3275) (fun R3278 T3279 H3280 p3281 => ?_))
    obtain ⟨e3282, e3284, z3285, e3283, b3286, p3287⟩ := p3281
    subst e3282
    subst e3283
    subst e3284
    obtain ⟨a3288, a3289⟩ := p3287
    show wp _ _ 196 27 [(1, vI z3262), (0, .ref r0)] [vI z3285] _ H2114 _
    have u3290 := RO_k a3289
    refine wp_of e196 c196_27 (rw_istore_n (pc' := 28) (z := z3285) (L' := [(2, vI z3285), (1, vI z3262), (0, .ref r0)]) rfl rfl rfl ?_)
    refine wp_of e196 c196_28 (rw_iload_n (pc' := 29) (z := z3262) rfl rfl ?_)
    refine wp_of e196 c196_29 (rw_iload_n (pc' := 30) (z := z3285) rfl rfl ?_)
    refine wp_of e196 c196_30 (rw_icmp_ne (p1 := 37) (p2 := 33) (by decide) rfl ⟨Int.le_trans (by decide) b3263.1, Int.le_trans b3263.2 (by decide)⟩ ⟨Int.le_trans (by decide) b3286.1, Int.le_trans b3286.2 (by decide)⟩ (fun c3291 => ?_) (fun c3291 => ?_))
    · exfalso
      omega
    · refine wp_of e196 c196_33 (rw_iconst (pc' := 34) rfl ?_)
      refine wp_of e196 c196_34 (rw_goto (p1 := 38) (by decide) ?_)
      refine wp_of e196 c196_38 (rw_istore_n (pc' := 39) (z := 1) (L' := [(3, vI 1), (2, vI z3285), (1, vI z3262), (0, .ref r0)]) rfl rfl rfl ?_)
      refine wp_of e196 c196_39 (rw_iconst (pc' := 40) rfl ?_)
      refine wp_of e196 c196_40 (rw_istore (pc' := 42) (z := 0) (L' := [(4, vI 0), (3, vI 1), (2, vI z3285), (1, vI z3262), (0, .ref r0)]) rfl rfl rfl ?_)
      have lp3320 : ∀ (n3321 : Nat) (v3323 : Int) (v3324 : Int), (0 ≤ v3323 ∧ v3323 ≤ 3) → (1 ≤ v3324 ∧ v3324 ≤ 1) → (3 - v3323).toNat = n3321 → wp kt 5 196 42 [(4, vI v3323), (3, vI v3324), (2, vI z3285), (1, vI z3262), (0, .ref r0)] [] T H2114 (uq_196_k r0 rp rb B n q d N0 H0 T H) := by
        intro n3321
        induction n3321 using Nat.strongRecOn with
        | _ n3321 ih3322 =>
          intro v3323 v3324 b3327 b3328 m3329
          refine wp_of e196 c196_42 (rw_iload (pc' := 44) (z := v3323) rfl rfl ?_)
          refine wp_of e196 c196_44 (rw_aload_n (pc' := 45) (v := .ref r0) rfl rfl rfl ?_)
          refine wp_of e196 c196_45 (xg_K (pc' := 48) lf_9_166 w2118 g0 sh_42 (by decide) (by decide) rfl q3252 rfl ?_)
          have k3330 : H2114 rp 4 = H rp 4 := (f2119 rp 4 _ grp rfl)
          refine wp_of e196 c196_48 (xg_I (pc' := 51) lf_9_276 w2118 grp sh_54 (by decide) (by decide) ty_54_4 rfl rfl (fun b3331 b3332 => ?_))
          refine wp_of e196 c196_51 (rw_icmp_ge (p1 := 126) (p2 := 54) (by decide) rfl ⟨Int.le_trans (by decide) b3327.1, Int.le_trans b3327.2 (by decide)⟩ ⟨Int.le_trans (by decide) b3331, Int.le_trans b3332 (by decide)⟩ (fun c3333 => ?_) (fun c3333 => ?_))
          · refine wp_of e196 c196_126 (rw_iload_n (pc' := 127) (z := v3324) rfl rfl ?_)
            refine wp_of e196 c196_127 (rw_if_eq (p1 := 135) (p2 := 130) (by decide) rfl ⟨Int.le_trans (by decide) b3328.1, Int.le_trans b3328.2 (by decide)⟩ (fun c3334 => ?_) (fun c3334 => ?_))
            · exfalso
              omega
            · refine wp_of e196 c196_130 (rw_aload_n (pc' := 131) (v := .ref r0) rfl rfl rfl ?_)
              refine wp_of e196 c196_131 (rw_iconst (pc' := 132) rfl ?_)
              refine wp_of e196 c196_132 (xc_V (pc' := 135) (r := r0) (as := [vI 3]) (st := []) (lm_9_121) rfl rfl (Nat.le_of_ble_eq_true rfl) w2118 g0 sh_42 (by decide) rfl (by decide) (u_181_o (fo := 5) (po := q) w2118 g0 ⟨by decide, by decide⟩ a3289) (fun R3335 T3336 H3337 p3338 => ?_))
              obtain ⟨e3339, e3341, e3340, p3342⟩ := p3338
              subst e3339
              subst e3340
              subst e3341
              show wp _ _ 196 135 [(4, vI v3323), (3, vI v3324), (2, vI z3285), (1, vI z3262), (0, .ref r0)] [] _ H2114 _
              have u3344 := RO_k p3342
              refine wp_of e196 c196_135 (rw_aload_n (pc' := 136) (v := .ref r0) rfl rfl rfl ?_)
              refine wp_of e196 c196_136 (xc_V (pc' := 139) (r := r0) (as := []) (st := []) (lm_9_118) rfl rfl (Nat.le_of_ble_eq_true rfl) w2118 g0 sh_42 (by decide) rfl (by decide) (u_172_o (fo := 5) (po := q) w2118 g0 p3342) (fun R3345 T3346 H3347 p3348 => ?_))
              obtain ⟨e3349, e3351, e3350, p3352⟩ := p3348
              subst e3349
              subst e3350
              subst e3351
              show wp _ _ 196 139 [(4, vI v3323), (3, vI v3324), (2, vI z3285), (1, vI z3262), (0, .ref r0)] [] _ H2114 _
              have u3354 := RO_k p3352
              refine wp_of e196 c196_139 (rw_aload_n (pc' := 140) (v := .ref r0) rfl rfl rfl ?_)
              refine wp_of e196 c196_140 (xg_I (pc' := 143) lf_9_75 w2118 g0 sh_42 (by decide) (by decide) ty_42_9 rfl rfl (fun b3355 b3356 => ?_))
              refine wp_of e196 c196_143 (rw_iconst (pc' := 144) rfl ?_)
              refine wp_of e196 c196_144 (rw_icmp_ne (p1 := 148) (p2 := 147) (by decide) rfl ⟨Int.le_trans (by decide) b3355, Int.le_trans b3356 (by decide)⟩ ⟨by decide, by decide⟩ (fun c3357 => ?_) (fun c3357 => ?_))
              · exfalso
                omega
              · have o3358 : (xl3 B n q d) = (5, q, q) := by
                  unfold xl3 xap
                  repeat first | rw [xs_0 (by omega -splitDisjunctions)] | rw [xs_1 (by omega -splitDisjunctions)] | rw [if_pos (by omega -splitDisjunctions)] | rw [if_neg (by omega -splitDisjunctions)] | rw [xs_0 (by omega)] | rw [xs_1 (by omega)] | rw [if_pos (by omega)] | rw [if_neg (by omega)]
                  first | done | rfl | assumption | (exfalso; omega -splitDisjunctions) | (refine Prod.ext ?_ (Prod.ext ?_ ?_) <;> (try dsimp only) <;> omega) | (exfalso; omega)
                have o3358a : ((xl3 B n q d)).1 = 5 := by rw [o3358]
                have o3358b : ((xl3 B n q d)).2.1 = q := by rw [o3358]
                have o3358c : ((xl3 B n q d)).2.2 = q := by rw [o3358]
                have h3359 : FZ T H2114 rp N0 H0 := (FZ_fr hW grp f2119 rfl hFZ_rp)
                exact wp_return e196 c196_147 rfl ⟨rfl, w2118, f3249, rfl, (Or.inr ⟨by omega, RO_eq p3352 (by omega) (by omega), h3359⟩)⟩
          · refine wp_of e196 c196_54 (rw_iload_n (pc' := 55) (z := v3324) rfl rfl ?_)
            refine wp_of e196 c196_55 (rw_if_ne (p1 := 114) (p2 := 58) (by decide) rfl ⟨Int.le_trans (by decide) b3328.1, Int.le_trans b3328.2 (by decide)⟩ (fun c3360 => ?_) (fun c3360 => ?_))
            · refine wp_of e196 c196_114 (rw_iconst (pc' := 115) rfl ?_)
              refine wp_of e196 c196_115 (rw_goto (p1 := 119) (by decide) ?_)
              refine wp_of e196 c196_119 (rw_istore_n (pc' := 120) (z := 1) (L' := [(3, vI 1), (4, vI v3323), (2, vI z3285), (1, vI z3262), (0, .ref r0)]) rfl rfl rfl ?_)
              refine wp_of e196 c196_120 (rw_iinc (pc' := 123) (z := v3323) (L' := [(4, vI (v3323 + 1)), (3, vI 1), (2, vI z3285), (1, vI z3262), (0, .ref r0)]) rfl rfl rfl rfl ?_)
              refine wp_of e196 c196_123 (rw_goto (p1 := 42) (by decide) ?_)
              exact wp_lc (ks := [4, 3, 2, 1, 0]) (wl_c rfl (wl_c rfl (wl_c rfl (wl_c rfl (wl_c rfl wl_n))))) rfl (by decide) (ih3322 _ (by omega) (v3323 + 1) 1 ⟨by omega, by omega⟩ ⟨by decide, by decide⟩ rfl)
            · exfalso
              omega
      exact wp_lc (ks := [4, 3, 2, 1, 0]) (wl_c rfl (wl_c rfl (wl_c rfl (wl_c rfl (wl_c rfl wl_n))))) rfl (by decide) (lp3320 _ 0 1 ⟨by decide, by decide⟩ ⟨by decide, by decide⟩ rfl)
