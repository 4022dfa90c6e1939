/-! THE LAW, GONE ON WITH (own work) -/
set_option maxHeartbeats 4000000 in
theorem wl_c7 {kt : Nat → Option mc_E} {CB SB : Nat} {X : mc_S → Prop} {T : wq_T} {H : wq_H} {Len x m o : Nat} {i : Int} (hX : wlX kt CB SB X) (hb : T.2.1 ≤ CB ∧ T.2.2.1 ≤ SB) (hI : wlJ Len x m o T H) (hL : Len ≤ 3072) (hi : 0 ≤ i ∧ i + 6 ≤ Len) (hb2 : T.2.1 + 20 ≤ CB ∧ T.2.2.1 + 500 ≤ SB)  (next : ∀ T' H', wlJ Len x m o T' H' → T'.2.1 ≤ T.2.1 + 20 → T'.2.2.1 ≤ T.2.2.1 + 500 → WL kt CB SB X 1653 (wlL i x m o) [] T' H') : WL kt CB SB X 503 (wlL i x m o) [] T H := by
  obtain ⟨⟨hW, g0, gx, gm, go, hK, hr⟩, hXI, hY1, hY2⟩ := hI
  refine wl_of hX hb cL_503 (rw_aload_n (pc' := 504) (v := .ref x) rfl rfl rfl ?_)
  refine wl_of hX hb cL_504 (xc_V (pc' := 507) (r := x) (as := []) (st := []) (lm_11_50) rfl rfl (Nat.le_of_ble_eq_true rfl) hW gx sh_1 (by decide) rfl (by decide) (s_61 hW gx) (fun R2188 T2189 H2190 p2191 => ?_))
  obtain ⟨e2192, w2194, f2195, z2196, e2193, b2197⟩ := p2191
  subst e2192
  subst e2193
  show WL _ _ _ _ 507 [(4, vI i), (3, .ref o), (2, .ref m), (1, .ref x), (0, .ref 0)] [vL z2196] _ H2190
  refine wl_of hX hb cL_507 (rw_pop2 (pc' := 508) rfl rfl ?_)
  refine wl_of hX hb cL_508 (rw_aload_n (pc' := 509) (v := .ref m) rfl rfl rfl ?_)
  have k2198 : wKI H2190 m = wKI H m := (wKI_fr hW gm f2195 rfl)
  have k2199 : H2190 x 9 = H x 9 := (f2195 x 9 _ gx rfl)
  have k2200 : H2190 m 6 = H m 6 := (f2195 m 6 _ gm rfl)
  have k2201 : H2190 x 11 = H x 11 := (f2195 x 11 _ gx rfl)
  have k2202 : H2190 m 13 = H m 13 := (f2195 m 13 _ gm rfl)
  have k2203 : H2190 x 8 = H x 8 := (f2195 x 8 _ gx rfl)
  have k2204 : H2190 m 3 = H m 3 := (f2195 m 3 _ gm rfl)
  refine wl_of hX hb cL_509 (xc_V (pc' := 512) (r := m) (as := []) (st := []) (lm_11_54) rfl rfl (Nat.le_of_ble_eq_true rfl) w2194 gm sh_42 (by decide) rfl (by decide) (s_219 w2194 gm (by omega)) (fun R2205 T2206 H2207 p2208 => ?_))
  obtain ⟨e2209, w2211, f2212, z2214, e2210, b2215, p2213⟩ := p2208
  subst e2209
  subst e2210
  show WL _ _ _ _ 512 [(4, vI i), (3, .ref o), (2, .ref m), (1, .ref x), (0, .ref 0)] [vL z2214] _ H2207
  refine wl_of hX hb cL_512 (rw_pop2 (pc' := 513) rfl rfl ?_)
  refine wl_of hX hb cL_513 (rw_goto (p1 := 1653) (by decide) ?_)
  have k2216 : H2207 x 9 = H2190 x 9 := (f2212 x 9 _ gx rfl)
  have k2217 : H2207 m 6 = H2190 m 6 := (f2212 m 6 _ gm rfl)
  have k2218 : H2207 x 11 = H2190 x 11 := (f2212 x 11 _ gx rfl)
  have k2219 : H2207 m 13 = H2190 m 13 := (f2212 m 13 _ gm rfl)
  have k2220 : H2207 x 8 = H2190 x 8 := (f2212 x 8 _ gx rfl)
  have k2221 : H2207 m 3 = H2190 m 3 := (f2212 m 3 _ gm rfl)
  have h2222 : XI T H2207 x m := (XI_fr w2194 gx f2212 rfl (XI_fr hW gx f2195 rfl hXI))
  exact WL.loc hX (by simp) (next T H2207 ⟨⟨w2211, g0, gx, gm, go, by omega, by omega⟩, h2222, by omega, by omega⟩ (by omega) (by omega))
set_option maxHeartbeats 4000000 in
theorem wl_c8 {kt : Nat → Option mc_E} {CB SB : Nat} {X : mc_S → Prop} {T : wq_T} {H : wq_H} {Len x m o : Nat} {i : Int} (hX : wlX kt CB SB X) (hb : T.2.1 ≤ CB ∧ T.2.2.1 ≤ SB) (hI : wlJ Len x m o T H) (hL : Len ≤ 3072) (hi : 0 ≤ i ∧ i + 6 ≤ Len) (hb2 : T.2.1 + 20 ≤ CB ∧ T.2.2.1 + 500 ≤ SB)  (next : ∀ T' H', wlJ Len x m o T' H' → T'.2.1 ≤ T.2.1 + 20 → T'.2.2.1 ≤ T.2.2.1 + 500 → WL kt CB SB X 1653 (wlL i x m o) [] T' H') : WL kt CB SB X 516 (wlL i x m o) [] T H := by
  obtain ⟨⟨hW, g0, gx, gm, go, hK, hr⟩, hXI, hY1, hY2⟩ := hI
  refine wl_of hX hb cL_516 (rw_aload_n (pc' := 517) (v := .ref x) rfl rfl rfl ?_)
  refine wl_of hX hb cL_517 (rw_aload_n (pc' := 518) (v := .ref 0) rfl rfl rfl ?_)
  refine wl_of hX hb cL_518 (rw_iload (pc' := 520) (z := i) rfl rfl ?_)
  refine wl_of hX hb cL_520 (rw_iconst (pc' := 521) rfl ?_)
  refine wl_of hX hb cL_521 (rw_iadd (pc' := 522) rfl ?_)
  refine wl_of hX hb cL_522 (xa_I (so := 0) (pc' := 523) (a := 0) hW g0 (wsh_s _) (by omega) (wty_s _ _) (by omega) (by omega) rfl (fun b2223 b2224 => ?_))
  refine wl_of hX hb cL_523 (rw_aload_n (pc' := 524) (v := .ref 0) rfl rfl rfl ?_)
  refine wl_of hX hb cL_524 (rw_iload (pc' := 526) (z := i) rfl rfl ?_)
  refine wl_of hX hb cL_526 (rw_iconst (pc' := 527) rfl ?_)
  refine wl_of hX hb cL_527 (rw_iadd (pc' := 528) rfl ?_)
  refine wl_of hX hb cL_528 (xa_I (so := 0) (pc' := 529) (a := 0) hW g0 (wsh_s _) (by omega) (wty_s _ _) (by omega) (by omega) rfl (fun b2225 b2226 => ?_))
  obtain ⟨B, tc, tm, cu, dr, C8, e8, d8, n8, g8, ce8, e0, gtc, htc, em, gtm, htm, ecu, gcu, edr, gdr, hcu, hdr, hdec, hded, hsp, hC1, hC2, hcu8, hrb8, hcg8, hmn8, hE, hZ, hn8, hXA, hV8, hSG, ece8, gce8, hcen8, hhdr8, hknn8, -⟩ := hXI
  have hN3 := RB_n3 hrb8
  have hE13 : ∀ h : Nat, h < 24 → 0 ≤ e8 13 h ∧ e8 13 h ≤ 100 := fun k hk => by
    obtain ⟨s, h1, h2, h3⟩ := hcu8.1.2.2.1
    exact ⟨(h3 k hk).1, (h3 k hk).2.1⟩
  have hXW := hXA.1
  have hXN := hXA.2
  have hE0 : e8 0 3 = d8 0 3 ∧ e8 0 0 = d8 0 0 := by
    have h := hE 0 (by decide)
    exact ⟨congrFun h 3, congrFun h 0⟩
  have u2227 := CU_k hcu8
  have h2228 : CY T H cu (d8 0 3) g8 (H cu 17) := ⟨hcg8, rfl⟩
  have h2229 : RY T H m (d8 0 3) g8 (H m 32) := ⟨hmn8, rfl⟩
  obtain ⟨t9, ht9⟩ : ∃ t : Int, t = H x 9 := ⟨_, rfl⟩
  obtain ⟨y9, hy9⟩ : ∃ y : Int, y = H 0 ((i + 2).toNat) := ⟨_, rfl⟩
  refine wl_of hX hb cL_529 (xc_V (pc' := 532) (r := x) (as := [vI (H 0 ((i + 1).toNat)), vI (H 0 ((i + 2).toNat))]) (st := []) (lm_11_55) rfl rfl (Nat.le_of_ble_eq_true rfl) hW gx sh_1 (by decide) rfl (by decide) (u_62 (e := e8) (d := d8) (n := n8) (nY := ((d8 0 3))) (gY := g8) (cY := ((H cu 17))) hW gx ⟨by omega, by omega⟩ ⟨by omega, by omega⟩ ecu gcu (by omega) (by omega) (by omega) (by assumption) hcu8 h2228 hcu) (fun R2230 T2231 H2232 p2233 => ?_))
  obtain ⟨e2234, w2236, f2237, z2238, e2235, b2239, p2240⟩ := p2233
  subst e2234
  subst e2235
  rcases p2240 with ⟨a2241, a2242, a2243, a2244⟩ | ⟨a2245, a2246, a2247⟩
  · show WL _ _ _ _ 532 [(4, vI i), (3, .ref o), (2, .ref m), (1, .ref x), (0, .ref 0)] [vI z2238] _ H2232
    refine wl_of hX hb cL_532 (rw_pop (pc' := 533) rfl rfl ?_)
    refine wl_of hX hb cL_533 (rw_aload_n (pc' := 534) (v := .ref m) rfl rfl rfl ?_)
    refine wl_of hX hb cL_534 (rw_aload_n (pc' := 535) (v := .ref 0) rfl rfl rfl ?_)
    refine wl_of hX hb cL_535 (rw_iload (pc' := 537) (z := i) rfl rfl ?_)
    refine wl_of hX hb cL_537 (rw_iconst (pc' := 538) rfl ?_)
    refine wl_of hX hb cL_538 (rw_iadd (pc' := 539) rfl ?_)
    have k2250 : H2232 0 ((i + 1).toNat) = H 0 ((i + 1).toNat) := (f2237 0 ((i + 1).toNat) _ g0 (wmem_s rfl))
    refine wl_of hX hb cL_539 (xa_I (so := 0) (pc' := 540) (a := 0) w2236 g0 (wsh_s _) (by omega) (wty_s _ _) (by omega) (by omega) rfl (fun b2248 b2249 => ?_))
    refine wl_of hX hb cL_540 (rw_aload_n (pc' := 541) (v := .ref 0) rfl rfl rfl ?_)
    refine wl_of hX hb cL_541 (rw_iload (pc' := 543) (z := i) rfl rfl ?_)
    refine wl_of hX hb cL_543 (rw_iconst (pc' := 544) rfl ?_)
    refine wl_of hX hb cL_544 (rw_iadd (pc' := 545) rfl ?_)
    have k2253 : H2232 0 ((i + 2).toNat) = H 0 ((i + 2).toNat) := (f2237 0 ((i + 2).toNat) _ g0 (wmem_s rfl))
    refine wl_of hX hb cL_545 (xa_I (so := 0) (pc' := 546) (a := 0) w2236 g0 (wsh_s _) (by omega) (wty_s _ _) (by omega) (by omega) rfl (fun b2251 b2252 => ?_))
    have k2254 : wKI H2232 m = wKI H m := (wKI_fr hW gm f2237 rfl)
    have k2255 : H2232 x 9 = H x 9 := (f2237 x 9 _ gx rfl)
    have k2256 : H2232 m 6 = H m 6 := (f2237 m 6 _ gm rfl)
    have k2257 : H2232 x 11 = H x 11 := (f2237 x 11 _ gx rfl)
    have k2258 : H2232 m 13 = H m 13 := (f2237 m 13 _ gm rfl)
    have k2259 : H2232 x 8 = H x 8 := (f2237 x 8 _ gx rfl)
    have k2260 : H2232 m 3 = H m 3 := (f2237 m 3 _ gm rfl)
    rw [show H2232 0 ((i + 2).toNat) = H 0 ((i + 2).toNat) by omega]
    rw [show H2232 0 ((i + 1).toNat) = H 0 ((i + 1).toNat) by omega]
    have h2261 : RB T H2232 m e8 d8 := (RB_fr hW gm f2237 rfl hrb8)
    have h2262 : RY T H2232 m (d8 0 3) g8 (H m 32) := (RY_fr hW gm f2237 rfl h2229)
    refine wl_of hX hb cL_546 (xc_V (pc' := 549) (r := m) (as := [vI (H 0 ((i + 1).toNat)), vI (H 0 ((i + 2).toNat))]) (st := []) (lm_11_59) rfl rfl (Nat.le_of_ble_eq_true rfl) w2236 gm sh_42 (by decide) rfl (by decide) (u_222 (e := e8) (d := d8) (nY := ((d8 0 3))) (gY := g8) (cY := ((H m 32))) w2236 gm ⟨by omega, by omega⟩ ⟨by omega, by omega⟩ (by omega) h2261 h2262) (fun R2263 T2264 H2265 p2266 => ?_))
    obtain ⟨e2267, w2269, f2270, z2271, e2268, b2272, p2273⟩ := p2266
    subst e2267
    subst e2268
    rcases p2273 with ⟨a2274, a2275, a2276⟩ | ⟨a2277, a2278, a2279⟩
    · show WL _ _ _ _ 549 [(4, vI i), (3, .ref o), (2, .ref m), (1, .ref x), (0, .ref 0)] [vI z2271] _ H2265
      refine wl_of hX hb cL_549 (rw_pop (pc' := 550) rfl rfl ?_)
      refine wl_of hX hb cL_550 (rw_goto (p1 := 1653) (by decide) ?_)
      have k2280 : wKI H2265 m = wKI H2232 m := (wKI_fr w2236 gm f2270 rfl)
      have k2281 : H2265 x 9 = H2232 x 9 := (f2270 x 9 _ gx rfl)
      have k2282 : H2265 m 6 = H2232 m 6 := (f2270 m 6 _ gm rfl)
      have k2283 : H2265 x 11 = H2232 x 11 := (f2270 x 11 _ gx rfl)
      have k2284 : H2265 m 13 = H2232 m 13 := (f2270 m 13 _ gm rfl)
      have k2285 : H2265 x 8 = H2232 x 8 := (f2270 x 8 _ gx rfl)
      have k2286 : H2265 m 3 = H2232 m 3 := (f2270 m 3 _ gm rfl)
      have k2287 : H2265 x 0 = H x 0 := ((f2270 x 0 _ gx rfl).trans (f2237 x 0 _ gx rfl))
      have q2288 : H2265 x 0 = (tc : Int) := k2287.trans e0
      have k2289 : H2265 m 5 = H m 5 := ((f2270 m 5 _ gm rfl).trans (f2237 m 5 _ gm rfl))
      have q2290 : H2265 m 5 = (tm : Int) := k2289.trans em
      have k2291 : H2265 x 6 = H x 6 := ((f2270 x 6 _ gx rfl).trans (f2237 x 6 _ gx rfl))
      have q2292 : H2265 x 6 = (cu : Int) := k2291.trans ecu
      have k2293 : H2265 x 7 = H x 7 := ((f2270 x 7 _ gx rfl).trans (f2237 x 7 _ gx rfl))
      have q2294 : H2265 x 7 = (dr : Int) := k2293.trans edr
      have h2295 : CEN T H2265 ce8 e8 d8 := (CEN_fr w2236 gce8 f2270 rfl (CEN_fr hW gce8 f2237 rfl hcen8))
      have h2296 : TP T H2265 tc B := (TP_fr w2236 gtc f2270 rfl (TP_fr hW gtc f2237 rfl htc))
      have h2297 : TM T H2265 tm B := (TM_fr w2236 gtm f2270 rfl (TM_fr hW gtm f2237 rfl htm))
      have h2298 : DD T H2265 cu  := (DD_fr w2236 gcu f2270 rfl (DD_fr hW gcu f2237 rfl hcu))
      have h2299 : DD T H2265 dr  := (DD_fr w2236 gdr f2270 rfl (DD_fr hW gdr f2237 rfl hdr))
      have h2300 : DE T H2265 cu  := (DE_fr w2236 gcu f2270 rfl (DE_fr hW gcu f2237 rfl hdec))
      have h2301 : DE T H2265 dr  := (DE_fr w2236 gdr f2270 rfl (DE_fr hW gdr f2237 rfl hded))
      have h2302 : SP T H2265 x C8 := (SP_fr w2236 gx f2270 rfl (SP_fr hW gx f2237 rfl hsp))
      have h2303 : CU T H2265 cu e8 d8 n8 := (CU_fr w2236 gcu f2270 rfl (CU_fr hW gcu f2237 rfl hcu8))
      have h2304 : CY T H2265 cu ((d8 0 3)) (xup g8 ((H 0 ((i + 1).toNat))).toNat (H 0 ((i + 2).toNat))) ((H cu 17)) := (CY_fr w2236 gcu f2270 rfl a2244)
      have k2305 : H2265 x 3 = H x 3 := ((f2270 x 3 _ gx rfl).trans (f2237 x 3 _ gx rfl))
      have q2306 : H2265 x 3 = (ce8 : Int) := k2305.trans ece8
      have h2307 : HDR T H2265 ce8  := (HDR_fr w2236 gce8 f2270 rfl (HDR_fr hW gce8 f2237 rfl hhdr8))
      have h2308 : KNN T H2265 m e8 d8 := (KNN_fr w2236 gm f2270 rfl (KNN_fr hW gm f2237 rfl hknn8))
      have h2309 : RB T H2265 m e8 d8 := (RB_fr w2236 gm f2270 rfl h2261)
      exact WL.loc hX (by simp) (next T H2265 ⟨⟨w2269, g0, gx, gm, go, by omega, by omega⟩, ⟨_, tc, tm, cu, dr, _, _, _, _, _, ce8, q2288, gtc, h2296, q2290, gtm, h2297, q2292, gcu, q2294, gdr, h2298, h2299, h2300, h2301, h2302, hC1, hC2, h2303, h2309, (h2304).1, (a2276).1, hE, hZ, (by omega), (by assumption), (by omega), (by first | assumption | exact SG_0), q2306, gce8, h2295, h2307, h2308, gm⟩, by omega, by omega⟩ (by omega) (by omega))
    · show WL _ _ _ _ 549 [(4, vI i), (3, .ref o), (2, .ref m), (1, .ref x), (0, .ref 0)] [vI z2271] _ H2265
      refine wl_of hX hb cL_549 (rw_pop (pc' := 550) rfl rfl ?_)
      refine wl_of hX hb cL_550 (rw_goto (p1 := 1653) (by decide) ?_)
      have k2310 : wKI H2265 m = wKI H2232 m := (wKI_fr w2236 gm f2270 rfl)
      have k2311 : H2265 x 9 = H2232 x 9 := (f2270 x 9 _ gx rfl)
      have k2312 : H2265 m 6 = H2232 m 6 := (f2270 m 6 _ gm rfl)
      have k2313 : H2265 x 11 = H2232 x 11 := (f2270 x 11 _ gx rfl)
      have k2314 : H2265 m 13 = H2232 m 13 := (f2270 m 13 _ gm rfl)
      have k2315 : H2265 x 8 = H2232 x 8 := (f2270 x 8 _ gx rfl)
      have k2316 : H2265 m 3 = H2232 m 3 := (f2270 m 3 _ gm rfl)
      have k2317 : H2265 x 0 = H x 0 := ((f2270 x 0 _ gx rfl).trans (f2237 x 0 _ gx rfl))
      have q2318 : H2265 x 0 = (tc : Int) := k2317.trans e0
      have k2319 : H2265 m 5 = H m 5 := ((f2270 m 5 _ gm rfl).trans (f2237 m 5 _ gm rfl))
      have q2320 : H2265 m 5 = (tm : Int) := k2319.trans em
      have k2321 : H2265 x 6 = H x 6 := ((f2270 x 6 _ gx rfl).trans (f2237 x 6 _ gx rfl))
      have q2322 : H2265 x 6 = (cu : Int) := k2321.trans ecu
      have k2323 : H2265 x 7 = H x 7 := ((f2270 x 7 _ gx rfl).trans (f2237 x 7 _ gx rfl))
      have q2324 : H2265 x 7 = (dr : Int) := k2323.trans edr
      have h2325 : CEN T H2265 ce8 e8 d8 := (CEN_fr w2236 gce8 f2270 rfl (CEN_fr hW gce8 f2237 rfl hcen8))
      have h2326 : TP T H2265 tc B := (TP_fr w2236 gtc f2270 rfl (TP_fr hW gtc f2237 rfl htc))
      have h2327 : TM T H2265 tm B := (TM_fr w2236 gtm f2270 rfl (TM_fr hW gtm f2237 rfl htm))
      have h2328 : DD T H2265 cu  := (DD_fr w2236 gcu f2270 rfl (DD_fr hW gcu f2237 rfl hcu))
      have h2329 : DD T H2265 dr  := (DD_fr w2236 gdr f2270 rfl (DD_fr hW gdr f2237 rfl hdr))
      have h2330 : DE T H2265 cu  := (DE_fr w2236 gcu f2270 rfl (DE_fr hW gcu f2237 rfl hdec))
      have h2331 : DE T H2265 dr  := (DE_fr w2236 gdr f2270 rfl (DE_fr hW gdr f2237 rfl hded))
      have h2332 : SP T H2265 x C8 := (SP_fr w2236 gx f2270 rfl (SP_fr hW gx f2237 rfl hsp))
      have h2333 : CU T H2265 cu e8 d8 n8 := (CU_fr w2236 gcu f2270 rfl (CU_fr hW gcu f2237 rfl hcu8))
      have h2334 : CY T H2265 cu ((d8 0 3)) (xup g8 ((H 0 ((i + 1).toNat))).toNat (H 0 ((i + 2).toNat))) ((H cu 17)) := (CY_fr w2236 gcu f2270 rfl a2244)
      have k2335 : H2265 x 3 = H x 3 := ((f2270 x 3 _ gx rfl).trans (f2237 x 3 _ gx rfl))
      have q2336 : H2265 x 3 = (ce8 : Int) := k2335.trans ece8
      have h2337 : HDR T H2265 ce8  := (HDR_fr w2236 gce8 f2270 rfl (HDR_fr hW gce8 f2237 rfl hhdr8))
      have h2338 : KNN T H2265 m e8 d8 := (KNN_fr w2236 gm f2270 rfl (KNN_fr hW gm f2237 rfl hknn8))
      exfalso
      omega
  · show WL _ _ _ _ 532 [(4, vI i), (3, .ref o), (2, .ref m), (1, .ref x), (0, .ref 0)] [vI z2238] _ H2232
    refine wl_of hX hb cL_532 (rw_pop (pc' := 533) rfl rfl ?_)
    refine wl_of hX hb cL_533 (rw_aload_n (pc' := 534) (v := .ref m) rfl rfl rfl ?_)
    refine wl_of hX hb cL_534 (rw_aload_n (pc' := 535) (v := .ref 0) rfl rfl rfl ?_)
    refine wl_of hX hb cL_535 (rw_iload (pc' := 537) (z := i) rfl rfl ?_)
    refine wl_of hX hb cL_537 (rw_iconst (pc' := 538) rfl ?_)
    refine wl_of hX hb cL_538 (rw_iadd (pc' := 539) rfl ?_)
    have k2341 : H2232 0 ((i + 1).toNat) = H 0 ((i + 1).toNat) := (f2237 0 ((i + 1).toNat) _ g0 (wmem_s rfl))
    refine wl_of hX hb cL_539 (xa_I (so := 0) (pc' := 540) (a := 0) w2236 g0 (wsh_s _) (by omega) (wty_s _ _) (by omega) (by omega) rfl (fun b2339 b2340 => ?_))
    refine wl_of hX hb cL_540 (rw_aload_n (pc' := 541) (v := .ref 0) rfl rfl rfl ?_)
    refine wl_of hX hb cL_541 (rw_iload (pc' := 543) (z := i) rfl rfl ?_)
    refine wl_of hX hb cL_543 (rw_iconst (pc' := 544) rfl ?_)
    refine wl_of hX hb cL_544 (rw_iadd (pc' := 545) rfl ?_)
    have k2344 : H2232 0 ((i + 2).toNat) = H 0 ((i + 2).toNat) := (f2237 0 ((i + 2).toNat) _ g0 (wmem_s rfl))
    refine wl_of hX hb cL_545 (xa_I (so := 0) (pc' := 546) (a := 0) w2236 g0 (wsh_s _) (by omega) (wty_s _ _) (by omega) (by omega) rfl (fun b2342 b2343 => ?_))
    have k2345 : wKI H2232 m = wKI H m := (wKI_fr hW gm f2237 rfl)
    have k2346 : H2232 x 9 = H x 9 := (f2237 x 9 _ gx rfl)
    have k2347 : H2232 m 6 = H m 6 := (f2237 m 6 _ gm rfl)
    have k2348 : H2232 x 11 = H x 11 := (f2237 x 11 _ gx rfl)
    have k2349 : H2232 m 13 = H m 13 := (f2237 m 13 _ gm rfl)
    have k2350 : H2232 x 8 = H x 8 := (f2237 x 8 _ gx rfl)
    have k2351 : H2232 m 3 = H m 3 := (f2237 m 3 _ gm rfl)
    rw [show H2232 0 ((i + 2).toNat) = H 0 ((i + 2).toNat) by omega]
    rw [show H2232 0 ((i + 1).toNat) = H 0 ((i + 1).toNat) by omega]
    have h2352 : RB T H2232 m e8 d8 := (RB_fr hW gm f2237 rfl hrb8)
    have h2353 : RY T H2232 m (d8 0 3) g8 (H m 32) := (RY_fr hW gm f2237 rfl h2229)
    refine wl_of hX hb cL_546 (xc_V (pc' := 549) (r := m) (as := [vI (H 0 ((i + 1).toNat)), vI (H 0 ((i + 2).toNat))]) (st := []) (lm_11_59) rfl rfl (Nat.le_of_ble_eq_true rfl) w2236 gm sh_42 (by decide) rfl (by decide) (u_222 (e := e8) (d := d8) (nY := ((d8 0 3))) (gY := g8) (cY := ((H m 32))) w2236 gm ⟨by omega, by omega⟩ ⟨by omega, by omega⟩ (by omega) h2352 h2353) (fun R2354 T2355 H2356 p2357 => ?_))
    obtain ⟨e2358, w2360, f2361, z2362, e2359, b2363, p2364⟩ := p2357
    subst e2358
    subst e2359
    rcases p2364 with ⟨a2365, a2366, a2367⟩ | ⟨a2368, a2369, a2370⟩
    · show WL _ _ _ _ 549 [(4, vI i), (3, .ref o), (2, .ref m), (1, .ref x), (0, .ref 0)] [vI z2362] _ H2356
      refine wl_of hX hb cL_549 (rw_pop (pc' := 550) rfl rfl ?_)
      refine wl_of hX hb cL_550 (rw_goto (p1 := 1653) (by decide) ?_)
      have k2371 : wKI H2356 m = wKI H2232 m := (wKI_fr w2236 gm f2361 rfl)
      have k2372 : H2356 x 9 = H2232 x 9 := (f2361 x 9 _ gx rfl)
      have k2373 : H2356 m 6 = H2232 m 6 := (f2361 m 6 _ gm rfl)
      have k2374 : H2356 x 11 = H2232 x 11 := (f2361 x 11 _ gx rfl)
      have k2375 : H2356 m 13 = H2232 m 13 := (f2361 m 13 _ gm rfl)
      have k2376 : H2356 x 8 = H2232 x 8 := (f2361 x 8 _ gx rfl)
      have k2377 : H2356 m 3 = H2232 m 3 := (f2361 m 3 _ gm rfl)
      have k2378 : H2356 x 0 = H x 0 := ((f2361 x 0 _ gx rfl).trans (f2237 x 0 _ gx rfl))
      have q2379 : H2356 x 0 = (tc : Int) := k2378.trans e0
      have k2380 : H2356 m 5 = H m 5 := ((f2361 m 5 _ gm rfl).trans (f2237 m 5 _ gm rfl))
      have q2381 : H2356 m 5 = (tm : Int) := k2380.trans em
      have k2382 : H2356 x 6 = H x 6 := ((f2361 x 6 _ gx rfl).trans (f2237 x 6 _ gx rfl))
      have q2383 : H2356 x 6 = (cu : Int) := k2382.trans ecu
      have k2384 : H2356 x 7 = H x 7 := ((f2361 x 7 _ gx rfl).trans (f2237 x 7 _ gx rfl))
      have q2385 : H2356 x 7 = (dr : Int) := k2384.trans edr
      have h2386 : CEN T H2356 ce8 e8 d8 := (CEN_fr w2236 gce8 f2361 rfl (CEN_fr hW gce8 f2237 rfl hcen8))
      have h2387 : TP T H2356 tc B := (TP_fr w2236 gtc f2361 rfl (TP_fr hW gtc f2237 rfl htc))
      have h2388 : TM T H2356 tm B := (TM_fr w2236 gtm f2361 rfl (TM_fr hW gtm f2237 rfl htm))
      have h2389 : DD T H2356 cu  := (DD_fr w2236 gcu f2361 rfl (DD_fr hW gcu f2237 rfl hcu))
      have h2390 : DD T H2356 dr  := (DD_fr w2236 gdr f2361 rfl (DD_fr hW gdr f2237 rfl hdr))
      have h2391 : DE T H2356 cu  := (DE_fr w2236 gcu f2361 rfl (DE_fr hW gcu f2237 rfl hdec))
      have h2392 : DE T H2356 dr  := (DE_fr w2236 gdr f2361 rfl (DE_fr hW gdr f2237 rfl hded))
      have h2393 : SP T H2356 x C8 := (SP_fr w2236 gx f2361 rfl (SP_fr hW gx f2237 rfl hsp))
      have h2394 : CU T H2356 cu e8 d8 n8 := (CU_fr w2236 gcu f2361 rfl (CU_fr hW gcu f2237 rfl hcu8))
      have h2395 : CY T H2356 cu ((d8 0 3)) g8 ((H cu 17)) := (CY_fr w2236 gcu f2361 rfl a2247)
      have k2396 : H2356 x 3 = H x 3 := ((f2361 x 3 _ gx rfl).trans (f2237 x 3 _ gx rfl))
      have q2397 : H2356 x 3 = (ce8 : Int) := k2396.trans ece8
      have h2398 : HDR T H2356 ce8  := (HDR_fr w2236 gce8 f2361 rfl (HDR_fr hW gce8 f2237 rfl hhdr8))
      have h2399 : KNN T H2356 m e8 d8 := (KNN_fr w2236 gm f2361 rfl (KNN_fr hW gm f2237 rfl hknn8))
      exfalso
      omega
    · show WL _ _ _ _ 549 [(4, vI i), (3, .ref o), (2, .ref m), (1, .ref x), (0, .ref 0)] [vI z2362] _ H2356
      refine wl_of hX hb cL_549 (rw_pop (pc' := 550) rfl rfl ?_)
      refine wl_of hX hb cL_550 (rw_goto (p1 := 1653) (by decide) ?_)
      have k2400 : wKI H2356 m = wKI H2232 m := (wKI_fr w2236 gm f2361 rfl)
      have k2401 : H2356 x 9 = H2232 x 9 := (f2361 x 9 _ gx rfl)
      have k2402 : H2356 m 6 = H2232 m 6 := (f2361 m 6 _ gm rfl)
      have k2403 : H2356 x 11 = H2232 x 11 := (f2361 x 11 _ gx rfl)
      have k2404 : H2356 m 13 = H2232 m 13 := (f2361 m 13 _ gm rfl)
      have k2405 : H2356 x 8 = H2232 x 8 := (f2361 x 8 _ gx rfl)
      have k2406 : H2356 m 3 = H2232 m 3 := (f2361 m 3 _ gm rfl)
      have k2407 : H2356 x 0 = H x 0 := ((f2361 x 0 _ gx rfl).trans (f2237 x 0 _ gx rfl))
      have q2408 : H2356 x 0 = (tc : Int) := k2407.trans e0
      have k2409 : H2356 m 5 = H m 5 := ((f2361 m 5 _ gm rfl).trans (f2237 m 5 _ gm rfl))
      have q2410 : H2356 m 5 = (tm : Int) := k2409.trans em
      have k2411 : H2356 x 6 = H x 6 := ((f2361 x 6 _ gx rfl).trans (f2237 x 6 _ gx rfl))
      have q2412 : H2356 x 6 = (cu : Int) := k2411.trans ecu
      have k2413 : H2356 x 7 = H x 7 := ((f2361 x 7 _ gx rfl).trans (f2237 x 7 _ gx rfl))
      have q2414 : H2356 x 7 = (dr : Int) := k2413.trans edr
      have h2415 : CEN T H2356 ce8 e8 d8 := (CEN_fr w2236 gce8 f2361 rfl (CEN_fr hW gce8 f2237 rfl hcen8))
      have h2416 : TP T H2356 tc B := (TP_fr w2236 gtc f2361 rfl (TP_fr hW gtc f2237 rfl htc))
      have h2417 : TM T H2356 tm B := (TM_fr w2236 gtm f2361 rfl (TM_fr hW gtm f2237 rfl htm))
      have h2418 : DD T H2356 cu  := (DD_fr w2236 gcu f2361 rfl (DD_fr hW gcu f2237 rfl hcu))
      have h2419 : DD T H2356 dr  := (DD_fr w2236 gdr f2361 rfl (DD_fr hW gdr f2237 rfl hdr))
      have h2420 : DE T H2356 cu  := (DE_fr w2236 gcu f2361 rfl (DE_fr hW gcu f2237 rfl hdec))
      have h2421 : DE T H2356 dr  := (DE_fr w2236 gdr f2361 rfl (DE_fr hW gdr f2237 rfl hded))
      have h2422 : SP T H2356 x C8 := (SP_fr w2236 gx f2361 rfl (SP_fr hW gx f2237 rfl hsp))
      have h2423 : CU T H2356 cu e8 d8 n8 := (CU_fr w2236 gcu f2361 rfl (CU_fr hW gcu f2237 rfl hcu8))
      have h2424 : CY T H2356 cu ((d8 0 3)) g8 ((H cu 17)) := (CY_fr w2236 gcu f2361 rfl a2247)
      have k2425 : H2356 x 3 = H x 3 := ((f2361 x 3 _ gx rfl).trans (f2237 x 3 _ gx rfl))
      have q2426 : H2356 x 3 = (ce8 : Int) := k2425.trans ece8
      have h2427 : HDR T H2356 ce8  := (HDR_fr w2236 gce8 f2361 rfl (HDR_fr hW gce8 f2237 rfl hhdr8))
      have h2428 : KNN T H2356 m e8 d8 := (KNN_fr w2236 gm f2361 rfl (KNN_fr hW gm f2237 rfl hknn8))
      have h2429 : RB T H2356 m e8 d8 := (RB_fr w2236 gm f2361 rfl h2352)
      exact WL.loc hX (by simp) (next T H2356 ⟨⟨w2360, g0, gx, gm, go, by omega, by omega⟩, ⟨_, tc, tm, cu, dr, _, _, _, _, _, ce8, q2408, gtc, h2416, q2410, gtm, h2417, q2412, gcu, q2414, gdr, h2418, h2419, h2420, h2421, h2422, hC1, hC2, h2423, h2429, (h2424).1, (a2370).1, hE, hZ, (by omega), (by assumption), (by omega), (by first | assumption | exact SG_0), q2426, gce8, h2415, h2427, h2428, gm⟩, by omega, by omega⟩ (by omega) (by omega))
set_option maxHeartbeats 4000000 in
theorem wl_c9 {kt : Nat → Option mc_E} {CB SB : Nat} {X : mc_S → Prop} {T : wq_T} {H : wq_H} {Len x m o : Nat} {i : Int} (hX : wlX kt CB SB X) (hb : T.2.1 ≤ CB ∧ T.2.2.1 ≤ SB) (hI : wlJ Len x m o T H) (hL : Len ≤ 3072) (hi : 0 ≤ i ∧ i + 6 ≤ Len) (hb2 : T.2.1 + 20 ≤ CB ∧ T.2.2.1 + 500 ≤ SB)  (next : ∀ T' H', wlJ Len x m o T' H' → T'.2.1 ≤ T.2.1 + 20 → T'.2.2.1 ≤ T.2.2.1 + 500 → WL kt CB SB X 1653 (wlL i x m o) [] T' H') : WL kt CB SB X 553 (wlL i x m o) [] T H := by
  obtain ⟨⟨hW, g0, gx, gm, go, hK, hr⟩, hXI, hY1, hY2⟩ := hI
  refine wl_of hX hb cL_553 (rw_aload_n (pc' := 554) (v := .ref x) rfl rfl rfl ?_)
  refine wl_of hX hb cL_554 (rw_aload_n (pc' := 555) (v := .ref 0) rfl rfl rfl ?_)
  refine wl_of hX hb cL_555 (rw_iload (pc' := 557) (z := i) rfl rfl ?_)
  refine wl_of hX hb cL_557 (rw_iconst (pc' := 558) rfl ?_)
  refine wl_of hX hb cL_558 (rw_iadd (pc' := 559) rfl ?_)
  refine wl_of hX hb cL_559 (xa_I (so := 0) (pc' := 560) (a := 0) hW g0 (wsh_s _) (by omega) (wty_s _ _) (by omega) (by omega) rfl (fun b2430 b2431 => ?_))
  refine wl_of hX hb cL_560 (xc_V (pc' := 563) (r := x) (as := [vI (H 0 ((i + 1).toNat))]) (st := []) (lm_11_60) rfl rfl (Nat.le_of_ble_eq_true rfl) hW gx sh_1 (by decide) rfl (by decide) (s_65 hW gx ⟨by omega, by omega⟩) (fun R2432 T2433 H2434 p2435 => ?_))
  obtain ⟨e2436, w2438, f2439, z2440, e2437, b2441⟩ := p2435
  subst e2436
  subst e2437
  show WL _ _ _ _ 563 [(4, vI i), (3, .ref o), (2, .ref m), (1, .ref x), (0, .ref 0)] [vI z2440] _ H2434
  refine wl_of hX hb cL_563 (rw_pop (pc' := 564) rfl rfl ?_)
  refine wl_of hX hb cL_564 (rw_aload_n (pc' := 565) (v := .ref m) rfl rfl rfl ?_)
  refine wl_of hX hb cL_565 (rw_aload_n (pc' := 566) (v := .ref 0) rfl rfl rfl ?_)
  refine wl_of hX hb cL_566 (rw_iload (pc' := 568) (z := i) rfl rfl ?_)
  refine wl_of hX hb cL_568 (rw_iconst (pc' := 569) rfl ?_)
  refine wl_of hX hb cL_569 (rw_iadd (pc' := 570) rfl ?_)
  have k2444 : H2434 0 ((i + 1).toNat) = H 0 ((i + 1).toNat) := (f2439 0 ((i + 1).toNat) _ g0 (wmem_s rfl))
  refine wl_of hX hb cL_570 (xa_I (so := 0) (pc' := 571) (a := 0) w2438 g0 (wsh_s _) (by omega) (wty_s _ _) (by omega) (by omega) rfl (fun b2442 b2443 => ?_))
  have k2445 : wKI H2434 m = wKI H m := (wKI_fr hW gm f2439 rfl)
  have k2446 : H2434 x 9 = H x 9 := (f2439 x 9 _ gx rfl)
  have k2447 : H2434 m 6 = H m 6 := (f2439 m 6 _ gm rfl)
  have k2448 : H2434 x 11 = H x 11 := (f2439 x 11 _ gx rfl)
  have k2449 : H2434 m 13 = H m 13 := (f2439 m 13 _ gm rfl)
  have k2450 : H2434 x 8 = H x 8 := (f2439 x 8 _ gx rfl)
  have k2451 : H2434 m 3 = H m 3 := (f2439 m 3 _ gm rfl)
  refine wl_of hX hb cL_571 (xc_V (pc' := 574) (r := m) (as := [vI (H2434 0 ((i + 1).toNat))]) (st := []) (lm_11_63) rfl rfl (Nat.le_of_ble_eq_true rfl) w2438 gm sh_42 (by decide) rfl (by decide) (s_225 w2438 gm ⟨by omega, by omega⟩ (by omega)) (fun R2452 T2453 H2454 p2455 => ?_))
  obtain ⟨e2456, w2458, f2459, z2461, e2457, b2462, p2460⟩ := p2455
  subst e2456
  subst e2457
  show WL _ _ _ _ 574 [(4, vI i), (3, .ref o), (2, .ref m), (1, .ref x), (0, .ref 0)] [vI z2461] _ H2454
  refine wl_of hX hb cL_574 (rw_pop (pc' := 575) rfl rfl ?_)
  refine wl_of hX hb cL_575 (rw_goto (p1 := 1653) (by decide) ?_)
  have k2463 : H2454 x 9 = H2434 x 9 := (f2459 x 9 _ gx rfl)
  have k2464 : H2454 m 6 = H2434 m 6 := (f2459 m 6 _ gm rfl)
  have k2465 : H2454 x 11 = H2434 x 11 := (f2459 x 11 _ gx rfl)
  have k2466 : H2454 m 13 = H2434 m 13 := (f2459 m 13 _ gm rfl)
  have k2467 : H2454 x 8 = H2434 x 8 := (f2459 x 8 _ gx rfl)
  have k2468 : H2454 m 3 = H2434 m 3 := (f2459 m 3 _ gm rfl)
  have h2469 : XI T H2454 x m := (XI_fr w2438 gx f2459 rfl (XI_fr hW gx f2439 rfl hXI))
  exact WL.loc hX (by simp) (next T H2454 ⟨⟨w2458, g0, gx, gm, go, by omega, by omega⟩, h2469, by omega, by omega⟩ (by omega) (by omega))
set_option maxHeartbeats 4000000 in
theorem wl_c10 {kt : Nat → Option mc_E} {CB SB : Nat} {X : mc_S → Prop} {T : wq_T} {H : wq_H} {Len x m o : Nat} {i : Int} (hX : wlX kt CB SB X) (hb : T.2.1 ≤ CB ∧ T.2.2.1 ≤ SB) (hI : wlJ Len x m o T H) (hL : Len ≤ 3072) (hi : 0 ≤ i ∧ i + 6 ≤ Len) (hb2 : T.2.1 + 20 ≤ CB ∧ T.2.2.1 + 500 ≤ SB)  (next : ∀ T' H', wlJ Len x m o T' H' → T'.2.1 ≤ T.2.1 + 20 → T'.2.2.1 ≤ T.2.2.1 + 500 → WL kt CB SB X 1653 (wlL i x m o) [] T' H') : WL kt CB SB X 578 (wlL i x m o) [] T H := by
  obtain ⟨⟨hW, g0, gx, gm, go, hK, hr⟩, hXI, hY1, hY2⟩ := hI
  refine wl_of hX hb cL_578 (rw_aload_n (pc' := 579) (v := .ref x) rfl rfl rfl ?_)
  refine wl_of hX hb cL_579 (rw_aload_n (pc' := 580) (v := .ref 0) rfl rfl rfl ?_)
  refine wl_of hX hb cL_580 (rw_iload (pc' := 582) (z := i) rfl rfl ?_)
  refine wl_of hX hb cL_582 (rw_iconst (pc' := 583) rfl ?_)
  refine wl_of hX hb cL_583 (rw_iadd (pc' := 584) rfl ?_)
  refine wl_of hX hb cL_584 (xa_I (so := 0) (pc' := 585) (a := 0) hW g0 (wsh_s _) (by omega) (wty_s _ _) (by omega) (by omega) rfl (fun b2470 b2471 => ?_))
  refine wl_of hX hb cL_585 (xc_V (pc' := 588) (r := x) (as := [vI (H 0 ((i + 1).toNat))]) (st := []) (lm_11_64) rfl rfl (Nat.le_of_ble_eq_true rfl) hW gx sh_1 (by decide) rfl (by decide) (s_66 hW gx ⟨by omega, by omega⟩) (fun R2472 T2473 H2474 p2475 => ?_))
  obtain ⟨e2476, w2478, f2479, z2480, e2477, b2481⟩ := p2475
  subst e2476
  subst e2477
  show WL _ _ _ _ 588 [(4, vI i), (3, .ref o), (2, .ref m), (1, .ref x), (0, .ref 0)] [vI z2480] _ H2474
  refine wl_of hX hb cL_588 (rw_pop (pc' := 589) rfl rfl ?_)
  refine wl_of hX hb cL_589 (rw_aload_n (pc' := 590) (v := .ref m) rfl rfl rfl ?_)
  refine wl_of hX hb cL_590 (rw_aload_n (pc' := 591) (v := .ref 0) rfl rfl rfl ?_)
  refine wl_of hX hb cL_591 (rw_iload (pc' := 593) (z := i) rfl rfl ?_)
  refine wl_of hX hb cL_593 (rw_iconst (pc' := 594) rfl ?_)
  refine wl_of hX hb cL_594 (rw_iadd (pc' := 595) rfl ?_)
  have k2484 : H2474 0 ((i + 1).toNat) = H 0 ((i + 1).toNat) := (f2479 0 ((i + 1).toNat) _ g0 (wmem_s rfl))
  refine wl_of hX hb cL_595 (xa_I (so := 0) (pc' := 596) (a := 0) w2478 g0 (wsh_s _) (by omega) (wty_s _ _) (by omega) (by omega) rfl (fun b2482 b2483 => ?_))
  have k2485 : wKI H2474 m = wKI H m := (wKI_fr hW gm f2479 rfl)
  have k2486 : H2474 x 9 = H x 9 := (f2479 x 9 _ gx rfl)
  have k2487 : H2474 m 6 = H m 6 := (f2479 m 6 _ gm rfl)
  have k2488 : H2474 x 11 = H x 11 := (f2479 x 11 _ gx rfl)
  have k2489 : H2474 m 13 = H m 13 := (f2479 m 13 _ gm rfl)
  have k2490 : H2474 x 8 = H x 8 := (f2479 x 8 _ gx rfl)
  have k2491 : H2474 m 3 = H m 3 := (f2479 m 3 _ gm rfl)
  refine wl_of hX hb cL_596 (xc_V (pc' := 599) (r := m) (as := [vI (H2474 0 ((i + 1).toNat))]) (st := []) (lm_11_67) rfl rfl (Nat.le_of_ble_eq_true rfl) w2478 gm sh_42 (by decide) rfl (by decide) (s_226 w2478 gm ⟨by omega, by omega⟩ (by omega)) (fun R2492 T2493 H2494 p2495 => ?_))
  obtain ⟨e2496, w2498, f2499, z2501, e2497, b2502, p2500⟩ := p2495
  subst e2496
  subst e2497
  show WL _ _ _ _ 599 [(4, vI i), (3, .ref o), (2, .ref m), (1, .ref x), (0, .ref 0)] [vI z2501] _ H2494
  refine wl_of hX hb cL_599 (rw_pop (pc' := 600) rfl rfl ?_)
  refine wl_of hX hb cL_600 (rw_goto (p1 := 1653) (by decide) ?_)
  have k2503 : H2494 x 9 = H2474 x 9 := (f2499 x 9 _ gx rfl)
  have k2504 : H2494 m 6 = H2474 m 6 := (f2499 m 6 _ gm rfl)
  have k2505 : H2494 x 11 = H2474 x 11 := (f2499 x 11 _ gx rfl)
  have k2506 : H2494 m 13 = H2474 m 13 := (f2499 m 13 _ gm rfl)
  have k2507 : H2494 x 8 = H2474 x 8 := (f2499 x 8 _ gx rfl)
  have k2508 : H2494 m 3 = H2474 m 3 := (f2499 m 3 _ gm rfl)
  have h2509 : XI T H2494 x m := (XI_fr w2478 gx f2499 rfl (XI_fr hW gx f2479 rfl hXI))
  exact WL.loc hX (by simp) (next T H2494 ⟨⟨w2498, g0, gx, gm, go, by omega, by omega⟩, h2509, by omega, by omega⟩ (by omega) (by omega))
set_option maxHeartbeats 4000000 in
theorem wl_c11 {kt : Nat → Option mc_E} {CB SB : Nat} {X : mc_S → Prop} {T : wq_T} {H : wq_H} {Len x m o : Nat} {i : Int} (hX : wlX kt CB SB X) (hb : T.2.1 ≤ CB ∧ T.2.2.1 ≤ SB) (hI : wlJ Len x m o T H) (hL : Len ≤ 3072) (hi : 0 ≤ i ∧ i + 6 ≤ Len) (hb2 : T.2.1 + 20 ≤ CB ∧ T.2.2.1 + 500 ≤ SB)  (next : ∀ T' H', wlJ Len x m o T' H' → T'.2.1 ≤ T.2.1 + 20 → T'.2.2.1 ≤ T.2.2.1 + 500 → WL kt CB SB X 1653 (wlL i x m o) [] T' H') : WL kt CB SB X 603 (wlL i x m o) [] T H := by
  obtain ⟨⟨hW, g0, gx, gm, go, hK, hr⟩, hXI, hY1, hY2⟩ := hI
  refine wl_of hX hb cL_603 (rw_aload_n (pc' := 604) (v := .ref x) rfl rfl rfl ?_)
  refine wl_of hX hb cL_604 (xc_V (pc' := 607) (r := x) (as := []) (st := []) (lm_11_68) rfl rfl (Nat.le_of_ble_eq_true rfl) hW gx sh_1 (by decide) rfl (by decide) (s_73 hW gx) (fun R2510 T2511 H2512 p2513 => ?_))
  obtain ⟨e2514, w2516, f2517, z2518, e2515, b2519⟩ := p2513
  subst e2514
  subst e2515
  show WL _ _ _ _ 607 [(4, vI i), (3, .ref o), (2, .ref m), (1, .ref x), (0, .ref 0)] [vI z2518] _ H2512
  refine wl_of hX hb cL_607 (rw_pop (pc' := 608) rfl rfl ?_)
  refine wl_of hX hb cL_608 (rw_aload_n (pc' := 609) (v := .ref m) rfl rfl rfl ?_)
  have k2520 : wKI H2512 m = wKI H m := (wKI_fr hW gm f2517 rfl)
  have k2521 : H2512 x 9 = H x 9 := (f2517 x 9 _ gx rfl)
  have k2522 : H2512 m 6 = H m 6 := (f2517 m 6 _ gm rfl)
  have k2523 : H2512 x 11 = H x 11 := (f2517 x 11 _ gx rfl)
  have k2524 : H2512 m 13 = H m 13 := (f2517 m 13 _ gm rfl)
  have k2525 : H2512 x 8 = H x 8 := (f2517 x 8 _ gx rfl)
  have k2526 : H2512 m 3 = H m 3 := (f2517 m 3 _ gm rfl)
  refine wl_of hX hb cL_609 (xc_V (pc' := 612) (r := m) (as := []) (st := []) (lm_11_71) rfl rfl (Nat.le_of_ble_eq_true rfl) w2516 gm sh_42 (by decide) rfl (by decide) (s_230 w2516 gm (by omega)) (fun R2527 T2528 H2529 p2530 => ?_))
  obtain ⟨e2531, w2533, f2534, z2536, e2532, b2537, p2535⟩ := p2530
  subst e2531
  subst e2532
  show WL _ _ _ _ 612 [(4, vI i), (3, .ref o), (2, .ref m), (1, .ref x), (0, .ref 0)] [vI z2536] _ H2529
  refine wl_of hX hb cL_612 (rw_pop (pc' := 613) rfl rfl ?_)
  refine wl_of hX hb cL_613 (rw_goto (p1 := 1653) (by decide) ?_)
  have k2538 : H2529 x 9 = H2512 x 9 := (f2534 x 9 _ gx rfl)
  have k2539 : H2529 m 6 = H2512 m 6 := (f2534 m 6 _ gm rfl)
  have k2540 : H2529 x 11 = H2512 x 11 := (f2534 x 11 _ gx rfl)
  have k2541 : H2529 m 13 = H2512 m 13 := (f2534 m 13 _ gm rfl)
  have k2542 : H2529 x 8 = H2512 x 8 := (f2534 x 8 _ gx rfl)
  have k2543 : H2529 m 3 = H2512 m 3 := (f2534 m 3 _ gm rfl)
  have h2544 : XI T H2529 x m := (XI_fr w2516 gx f2534 rfl (XI_fr hW gx f2517 rfl hXI))
  exact WL.loc hX (by simp) (next T H2529 ⟨⟨w2533, g0, gx, gm, go, by omega, by omega⟩, h2544, by omega, by omega⟩ (by omega) (by omega))
set_option maxHeartbeats 4000000 in
theorem wl_c12 {kt : Nat → Option mc_E} {CB SB : Nat} {X : mc_S → Prop} {T : wq_T} {H : wq_H} {Len x m o : Nat} {i : Int} (hX : wlX kt CB SB X) (hb : T.2.1 ≤ CB ∧ T.2.2.1 ≤ SB) (hI : wlJ Len x m o T H) (hL : Len ≤ 3072) (hi : 0 ≤ i ∧ i + 6 ≤ Len) (hb2 : T.2.1 + 20 ≤ CB ∧ T.2.2.1 + 500 ≤ SB)  (next : ∀ T' H', wlJ Len x m o T' H' → T'.2.1 ≤ T.2.1 + 20 → T'.2.2.1 ≤ T.2.2.1 + 500 → WL kt CB SB X 1653 (wlL i x m o) [] T' H') : WL kt CB SB X 616 (wlL i x m o) [] T H := by
  obtain ⟨⟨hW, g0, gx, gm, go, hK, hr⟩, hXI, hY1, hY2⟩ := hI
  refine wl_of hX hb cL_616 (rw_aload_n (pc' := 617) (v := .ref x) rfl rfl rfl ?_)
  refine wl_of hX hb cL_617 (xc_V (pc' := 620) (r := x) (as := []) (st := []) (lm_11_72) rfl rfl (Nat.le_of_ble_eq_true rfl) hW gx sh_1 (by decide) rfl (by decide) (s_77 hW gx) (fun R2545 T2546 H2547 p2548 => ?_))
  obtain ⟨e2549, w2551, f2552, z2553, e2550, b2554⟩ := p2548
  subst e2549
  subst e2550
  show WL _ _ _ _ 620 [(4, vI i), (3, .ref o), (2, .ref m), (1, .ref x), (0, .ref 0)] [vI z2553] _ H2547
  refine wl_of hX hb cL_620 (rw_pop (pc' := 621) rfl rfl ?_)
  refine wl_of hX hb cL_621 (rw_aload_n (pc' := 622) (v := .ref m) rfl rfl rfl ?_)
  have k2555 : wKI H2547 m = wKI H m := (wKI_fr hW gm f2552 rfl)
  have k2556 : H2547 x 9 = H x 9 := (f2552 x 9 _ gx rfl)
  have k2557 : H2547 m 6 = H m 6 := (f2552 m 6 _ gm rfl)
  have k2558 : H2547 x 11 = H x 11 := (f2552 x 11 _ gx rfl)
  have k2559 : H2547 m 13 = H m 13 := (f2552 m 13 _ gm rfl)
  have k2560 : H2547 x 8 = H x 8 := (f2552 x 8 _ gx rfl)
  have k2561 : H2547 m 3 = H m 3 := (f2552 m 3 _ gm rfl)
  refine wl_of hX hb cL_622 (xc_V (pc' := 625) (r := m) (as := []) (st := []) (lm_11_75) rfl rfl (Nat.le_of_ble_eq_true rfl) w2551 gm sh_42 (by decide) rfl (by decide) (s_236 w2551 gm (by omega)) (fun R2562 T2563 H2564 p2565 => ?_))
  obtain ⟨e2566, w2568, f2569, z2571, e2567, b2572, p2570⟩ := p2565
  subst e2566
  subst e2567
  show WL _ _ _ _ 625 [(4, vI i), (3, .ref o), (2, .ref m), (1, .ref x), (0, .ref 0)] [vI z2571] _ H2564
  refine wl_of hX hb cL_625 (rw_pop (pc' := 626) rfl rfl ?_)
  refine wl_of hX hb cL_626 (rw_goto (p1 := 1653) (by decide) ?_)
  have k2573 : H2564 x 9 = H2547 x 9 := (f2569 x 9 _ gx rfl)
  have k2574 : H2564 m 6 = H2547 m 6 := (f2569 m 6 _ gm rfl)
  have k2575 : H2564 x 11 = H2547 x 11 := (f2569 x 11 _ gx rfl)
  have k2576 : H2564 m 13 = H2547 m 13 := (f2569 m 13 _ gm rfl)
  have k2577 : H2564 x 8 = H2547 x 8 := (f2569 x 8 _ gx rfl)
  have k2578 : H2564 m 3 = H2547 m 3 := (f2569 m 3 _ gm rfl)
  have h2579 : XI T H2564 x m := (XI_fr w2551 gx f2569 rfl (XI_fr hW gx f2552 rfl hXI))
  exact WL.loc hX (by simp) (next T H2564 ⟨⟨w2568, g0, gx, gm, go, by omega, by omega⟩, h2579, by omega, by omega⟩ (by omega) (by omega))
set_option maxHeartbeats 4000000 in
theorem wl_c13 {kt : Nat → Option mc_E} {CB SB : Nat} {X : mc_S → Prop} {T : wq_T} {H : wq_H} {Len x m o : Nat} {i : Int} (hX : wlX kt CB SB X) (hb : T.2.1 ≤ CB ∧ T.2.2.1 ≤ SB) (hI : wlJ Len x m o T H) (hL : Len ≤ 3072) (hi : 0 ≤ i ∧ i + 6 ≤ Len) (hb2 : T.2.1 + 20 ≤ CB ∧ T.2.2.1 + 500 ≤ SB)  (next : ∀ T' H', wlJ Len x m o T' H' → T'.2.1 ≤ T.2.1 + 20 → T'.2.2.1 ≤ T.2.2.1 + 500 → WL kt CB SB X 1653 (wlL i x m o) [] T' H') : WL kt CB SB X 629 (wlL i x m o) [] T H := by
  obtain ⟨⟨hW, g0, gx, gm, go, hK, hr⟩, hXI, hY1, hY2⟩ := hI
  refine wl_of hX hb cL_629 (rw_aload_n (pc' := 630) (v := .ref x) rfl rfl rfl ?_)
  refine wl_of hX hb cL_630 (xc_V (pc' := 633) (r := x) (as := []) (st := []) (lm_11_76) rfl rfl (Nat.le_of_ble_eq_true rfl) hW gx sh_1 (by decide) rfl (by decide) (s_78 hW gx) (fun R2580 T2581 H2582 p2583 => ?_))
  obtain ⟨e2584, w2586, f2587, z2588, e2585, b2589⟩ := p2583
  subst e2584
  subst e2585
  show WL _ _ _ _ 633 [(4, vI i), (3, .ref o), (2, .ref m), (1, .ref x), (0, .ref 0)] [vI z2588] _ H2582
  refine wl_of hX hb cL_633 (rw_pop (pc' := 634) rfl rfl ?_)
  refine wl_of hX hb cL_634 (rw_aload_n (pc' := 635) (v := .ref m) rfl rfl rfl ?_)
  have k2590 : wKI H2582 m = wKI H m := (wKI_fr hW gm f2587 rfl)
  have k2591 : H2582 x 9 = H x 9 := (f2587 x 9 _ gx rfl)
  have k2592 : H2582 m 6 = H m 6 := (f2587 m 6 _ gm rfl)
  have k2593 : H2582 x 11 = H x 11 := (f2587 x 11 _ gx rfl)
  have k2594 : H2582 m 13 = H m 13 := (f2587 m 13 _ gm rfl)
  have k2595 : H2582 x 8 = H x 8 := (f2587 x 8 _ gx rfl)
  have k2596 : H2582 m 3 = H m 3 := (f2587 m 3 _ gm rfl)
  refine wl_of hX hb cL_635 (xc_V (pc' := 638) (r := m) (as := []) (st := []) (lm_11_79) rfl rfl (Nat.le_of_ble_eq_true rfl) w2586 gm sh_42 (by decide) rfl (by decide) (s_237 w2586 gm (by omega)) (fun R2597 T2598 H2599 p2600 => ?_))
  obtain ⟨e2601, w2603, f2604, z2606, e2602, b2607, p2605⟩ := p2600
  subst e2601
  subst e2602
  show WL _ _ _ _ 638 [(4, vI i), (3, .ref o), (2, .ref m), (1, .ref x), (0, .ref 0)] [vI z2606] _ H2599
  refine wl_of hX hb cL_638 (rw_pop (pc' := 639) rfl rfl ?_)
  refine wl_of hX hb cL_639 (rw_goto (p1 := 1653) (by decide) ?_)
  have k2608 : H2599 x 9 = H2582 x 9 := (f2604 x 9 _ gx rfl)
  have k2609 : H2599 m 6 = H2582 m 6 := (f2604 m 6 _ gm rfl)
  have k2610 : H2599 x 11 = H2582 x 11 := (f2604 x 11 _ gx rfl)
  have k2611 : H2599 m 13 = H2582 m 13 := (f2604 m 13 _ gm rfl)
  have k2612 : H2599 x 8 = H2582 x 8 := (f2604 x 8 _ gx rfl)
  have k2613 : H2599 m 3 = H2582 m 3 := (f2604 m 3 _ gm rfl)
  have h2614 : XI T H2599 x m := (XI_fr w2586 gx f2604 rfl (XI_fr hW gx f2587 rfl hXI))
  exact WL.loc hX (by simp) (next T H2599 ⟨⟨w2603, g0, gx, gm, go, by omega, by omega⟩, h2614, by omega, by omega⟩ (by omega) (by omega))
set_option maxHeartbeats 4000000 in
theorem wl_c14 {kt : Nat → Option mc_E} {CB SB : Nat} {X : mc_S → Prop} {T : wq_T} {H : wq_H} {Len x m o : Nat} {i : Int} (hX : wlX kt CB SB X) (hb : T.2.1 ≤ CB ∧ T.2.2.1 ≤ SB) (hI : wlJ Len x m o T H) (hL : Len ≤ 3072) (hi : 0 ≤ i ∧ i + 6 ≤ Len) (hb2 : T.2.1 + 20 ≤ CB ∧ T.2.2.1 + 500 ≤ SB)  (next : ∀ T' H', wlJ Len x m o T' H' → T'.2.1 ≤ T.2.1 + 20 → T'.2.2.1 ≤ T.2.2.1 + 500 → WL kt CB SB X 1653 (wlL i x m o) [] T' H') : WL kt CB SB X 642 (wlL i x m o) [] T H := by
  obtain ⟨⟨hW, g0, gx, gm, go, hK, hr⟩, hXI, hY1, hY2⟩ := hI
  refine wl_of hX hb cL_642 (rw_aload_n (pc' := 643) (v := .ref x) rfl rfl rfl ?_)
  obtain ⟨B, tc, tm, cu, dr, C8, e8, d8, n8, g8, ce8, e0, gtc, htc, em, gtm, htm, ecu, gcu, edr, gdr, hcu, hdr, hdec, hded, hsp, hC1, hC2, hcu8, hrb8, hcg8, hmn8, hE, hZ, hn8, hXA, hV8, hSG, ece8, gce8, hcen8, hhdr8, hknn8, -⟩ := hXI
  have hN3 := RB_n3 hrb8
  have hE13 : ∀ h : Nat, h < 24 → 0 ≤ e8 13 h ∧ e8 13 h ≤ 100 := fun k hk => by
    obtain ⟨s, h1, h2, h3⟩ := hcu8.1.2.2.1
    exact ⟨(h3 k hk).1, (h3 k hk).2.1⟩
  have hXW := hXA.1
  have hXN := hXA.2
  have hE0 : e8 0 3 = d8 0 3 ∧ e8 0 0 = d8 0 0 := by
    have h := hE 0 (by decide)
    exact ⟨congrFun h 3, congrFun h 0⟩
  have u2615 := CU_k hcu8
  have h2616 : CY T H cu (d8 0 3) g8 (H cu 17) := ⟨hcg8, rfl⟩
  have h2617 : RY T H m (d8 0 3) g8 (H m 32) := ⟨hmn8, rfl⟩
  obtain ⟨t9, ht9⟩ : ∃ t : Int, t = H x 9 := ⟨_, rfl⟩
  obtain ⟨r2618, q2619, g2620⟩ := hW.ref gx (t' := 6) (n := 13) (j := 2) (p := 0) (q := 0) rfl (by decide) rfl
  refine wl_of hX hb cL_643 (xc_V (pc' := 646) (r := x) (as := []) (st := []) (lm_11_80) rfl rfl (Nat.le_of_ble_eq_true rfl) hW gx sh_1 (by decide) rfl (by decide) (u_82 (e := e8) (d := d8) (n := n8) hW gx ecu gcu q2619 g2620 ece8 gce8 (by assumption) (by assumption) (by omega) (by omega) (by omega) (by omega) hcu8 hcen8 hhdr8) (fun R2621 T2622 H2623 p2624 => ?_))
  obtain ⟨e2625, w2627, f2628, z2629, e2626, b2630, p2631⟩ := p2624
  subst e2625
  subst e2626
  rcases p2631 with ⟨a2632, a2633, a2634⟩ | ⟨a2635, a2636, a2637⟩
  · show WL _ _ _ _ 646 [(4, vI i), (3, .ref o), (2, .ref m), (1, .ref x), (0, .ref 0)] [vI z2629] _ H2623
    refine wl_of hX hb cL_646 (rw_aload_n (pc' := 647) (v := .ref m) rfl rfl rfl ?_)
    have k2638 : wKI H2623 m = wKI H m := (wKI_fr hW gm f2628 rfl)
    have k2639 : H2623 x 9 = H x 9 := (f2628 x 9 _ gx rfl)
    have k2640 : H2623 m 6 = H m 6 := (f2628 m 6 _ gm rfl)
    have k2641 : H2623 x 11 = H x 11 := (f2628 x 11 _ gx rfl)
    have k2642 : H2623 m 13 = H m 13 := (f2628 m 13 _ gm rfl)
    have k2643 : H2623 x 8 = H x 8 := (f2628 x 8 _ gx rfl)
    have k2644 : H2623 m 3 = H m 3 := (f2628 m 3 _ gm rfl)
    have h2645 : RB T H2623 m e8 d8 := (RB_fr hW gm f2628 rfl hrb8)
    have h2646 : KNN T H2623 m e8 d8 := (KNN_fr hW gm f2628 rfl hknn8)
    refine wl_of hX hb cL_647 (xc_V (pc' := 650) (r := m) (as := []) (st := [vI z2629]) (lm_11_83) rfl rfl (Nat.le_of_ble_eq_true rfl) w2627 gm sh_42 (by decide) rfl (by decide) (u_240 (e := e8) (d := d8) w2627 gm (by omega) (by assumption) (by assumption) (by assumption) (by assumption) h2645 h2646) (fun R2647 T2648 H2649 p2650 => ?_))
    obtain ⟨e2651, w2653, f2654, z2655, e2652, b2656, p2657⟩ := p2650
    subst e2651
    subst e2652
    rcases p2657 with ⟨a2658, a2659, a2660, a2661⟩ | ⟨a2662, a2663, a2664, a2665⟩
    · show WL _ _ _ _ 650 [(4, vI i), (3, .ref o), (2, .ref m), (1, .ref x), (0, .ref 0)] [vI z2655, vI z2629] _ H2649
      refine wl_of hX hb cL_650 (rw_icmp_eq (p1 := 1653) (p2 := 653) (by decide) rfl ⟨b2630.1, b2630.2⟩ ⟨b2656.1, b2656.2⟩ (fun c2666 => ?_) (fun c2666 => ?_))
      · have k2667 : H2649 x 9 = H2623 x 9 := (f2654 x 9 _ gx rfl)
        have k2668 : H2649 m 6 = H2623 m 6 := (f2654 m 6 _ gm rfl)
        have k2669 : H2649 x 11 = H2623 x 11 := (f2654 x 11 _ gx rfl)
        have k2670 : H2649 m 13 = H2623 m 13 := (f2654 m 13 _ gm rfl)
        have k2671 : H2649 x 8 = H2623 x 8 := (f2654 x 8 _ gx rfl)
        have k2672 : H2649 m 3 = H2623 m 3 := (f2654 m 3 _ gm rfl)
        have k2673 : H2649 x 0 = H x 0 := ((f2654 x 0 _ gx rfl).trans (f2628 x 0 _ gx rfl))
        have q2674 : H2649 x 0 = (tc : Int) := k2673.trans e0
        have k2675 : H2649 m 5 = H m 5 := ((f2654 m 5 _ gm rfl).trans (f2628 m 5 _ gm rfl))
        have q2676 : H2649 m 5 = (tm : Int) := k2675.trans em
        have k2677 : H2649 x 6 = H x 6 := ((f2654 x 6 _ gx rfl).trans (f2628 x 6 _ gx rfl))
        have q2678 : H2649 x 6 = (cu : Int) := k2677.trans ecu
        have k2679 : H2649 x 7 = H x 7 := ((f2654 x 7 _ gx rfl).trans (f2628 x 7 _ gx rfl))
        have q2680 : H2649 x 7 = (dr : Int) := k2679.trans edr
        have h2681 : CEN T H2649 ce8 e8 d8 := (CEN_fr w2627 gce8 f2654 rfl a2634)
        have h2682 : TP T H2649 tc B := (TP_fr w2627 gtc f2654 rfl (TP_fr hW gtc f2628 rfl htc))
        have h2683 : TM T H2649 tm B := (TM_fr w2627 gtm f2654 rfl (TM_fr hW gtm f2628 rfl htm))
        have h2684 : DD T H2649 cu  := (DD_fr w2627 gcu f2654 rfl (DD_fr hW gcu f2628 rfl hcu))
        have h2685 : DD T H2649 dr  := (DD_fr w2627 gdr f2654 rfl (DD_fr hW gdr f2628 rfl hdr))
        have h2686 : DE T H2649 cu  := (DE_fr w2627 gcu f2654 rfl (DE_fr hW gcu f2628 rfl hdec))
        have h2687 : DE T H2649 dr  := (DE_fr w2627 gdr f2654 rfl (DE_fr hW gdr f2628 rfl hded))
        have h2688 : SP T H2649 x C8 := (SP_fr w2627 gx f2654 rfl (SP_fr hW gx f2628 rfl hsp))
        have h2689 : CU T H2649 cu e8 d8 n8 := (CU_fr w2627 gcu f2654 rfl (CU_fr hW gcu f2628 rfl hcu8))
        have h2690 : CY T H2649 cu (d8 0 3) g8 (H cu 17) := (CY_fr w2627 gcu f2654 rfl (CY_fr hW gcu f2628 rfl h2616))
        have k2691 : H2649 x 3 = H x 3 := ((f2654 x 3 _ gx rfl).trans (f2628 x 3 _ gx rfl))
        have q2692 : H2649 x 3 = (ce8 : Int) := k2691.trans ece8
        have h2693 : HDR T H2649 ce8  := (HDR_fr w2627 gce8 f2654 rfl (HDR_fr hW gce8 f2628 rfl hhdr8))
        have h2694 : RY T H2649 m (d8 0 3) g8 (H m 32) := (RY_fr w2627 gm f2654 rfl (RY_fr hW gm f2628 rfl h2617))
        have h2695 : RB T H2649 m e8 d8 := (RB_fr w2627 gm f2654 rfl h2645)
        exact WL.loc hX (by simp) (next T H2649 ⟨⟨w2653, g0, gx, gm, go, by omega, by omega⟩, ⟨_, tc, tm, cu, dr, _, _, _, _, _, ce8, q2674, gtc, h2682, q2676, gtm, h2683, q2678, gcu, q2680, gdr, h2684, h2685, h2686, h2687, h2688, hC1, hC2, h2689, h2695, (h2690).1, (h2694).1, hE, hZ, (by omega), (by assumption), (by omega), (by first | assumption | exact SG_0), q2692, gce8, h2681, h2693, a2661, gm⟩, by omega, by omega⟩ (by omega) (by omega))
      · exfalso
        omega
    · show WL _ _ _ _ 650 [(4, vI i), (3, .ref o), (2, .ref m), (1, .ref x), (0, .ref 0)] [vI z2655, vI z2629] _ H2649
      refine wl_of hX hb cL_650 (rw_icmp_eq (p1 := 1653) (p2 := 653) (by decide) rfl ⟨b2630.1, b2630.2⟩ ⟨b2656.1, b2656.2⟩ (fun c2696 => ?_) (fun c2696 => ?_))
      · have k2697 : H2649 x 9 = H2623 x 9 := (f2654 x 9 _ gx rfl)
        have k2698 : H2649 m 6 = H2623 m 6 := (f2654 m 6 _ gm rfl)
        have k2699 : H2649 x 11 = H2623 x 11 := (f2654 x 11 _ gx rfl)
        have k2700 : H2649 m 13 = H2623 m 13 := (f2654 m 13 _ gm rfl)
        have k2701 : H2649 x 8 = H2623 x 8 := (f2654 x 8 _ gx rfl)
        have k2702 : H2649 m 3 = H2623 m 3 := (f2654 m 3 _ gm rfl)
        have k2703 : H2649 x 0 = H x 0 := ((f2654 x 0 _ gx rfl).trans (f2628 x 0 _ gx rfl))
        have q2704 : H2649 x 0 = (tc : Int) := k2703.trans e0
        have k2705 : H2649 m 5 = H m 5 := ((f2654 m 5 _ gm rfl).trans (f2628 m 5 _ gm rfl))
        have q2706 : H2649 m 5 = (tm : Int) := k2705.trans em
        have k2707 : H2649 x 6 = H x 6 := ((f2654 x 6 _ gx rfl).trans (f2628 x 6 _ gx rfl))
        have q2708 : H2649 x 6 = (cu : Int) := k2707.trans ecu
        have k2709 : H2649 x 7 = H x 7 := ((f2654 x 7 _ gx rfl).trans (f2628 x 7 _ gx rfl))
        have q2710 : H2649 x 7 = (dr : Int) := k2709.trans edr
        have h2711 : CEN T H2649 ce8 e8 d8 := (CEN_fr w2627 gce8 f2654 rfl a2634)
        have h2712 : TP T H2649 tc B := (TP_fr w2627 gtc f2654 rfl (TP_fr hW gtc f2628 rfl htc))
        have h2713 : TM T H2649 tm B := (TM_fr w2627 gtm f2654 rfl (TM_fr hW gtm f2628 rfl htm))
        have h2714 : DD T H2649 cu  := (DD_fr w2627 gcu f2654 rfl (DD_fr hW gcu f2628 rfl hcu))
        have h2715 : DD T H2649 dr  := (DD_fr w2627 gdr f2654 rfl (DD_fr hW gdr f2628 rfl hdr))
        have h2716 : DE T H2649 cu  := (DE_fr w2627 gcu f2654 rfl (DE_fr hW gcu f2628 rfl hdec))
        have h2717 : DE T H2649 dr  := (DE_fr w2627 gdr f2654 rfl (DE_fr hW gdr f2628 rfl hded))
        have h2718 : SP T H2649 x C8 := (SP_fr w2627 gx f2654 rfl (SP_fr hW gx f2628 rfl hsp))
        have h2719 : CU T H2649 cu e8 d8 n8 := (CU_fr w2627 gcu f2654 rfl (CU_fr hW gcu f2628 rfl hcu8))
        have h2720 : CY T H2649 cu (d8 0 3) g8 (H cu 17) := (CY_fr w2627 gcu f2654 rfl (CY_fr hW gcu f2628 rfl h2616))
        have k2721 : H2649 x 3 = H x 3 := ((f2654 x 3 _ gx rfl).trans (f2628 x 3 _ gx rfl))
        have q2722 : H2649 x 3 = (ce8 : Int) := k2721.trans ece8
        have h2723 : HDR T H2649 ce8  := (HDR_fr w2627 gce8 f2654 rfl (HDR_fr hW gce8 f2628 rfl hhdr8))
        have h2724 : RY T H2649 m (d8 0 3) g8 (H m 32) := (RY_fr w2627 gm f2654 rfl (RY_fr hW gm f2628 rfl h2617))
        have h2725 : RB T H2649 m e8 d8 := (RB_fr w2627 gm f2654 rfl h2645)
        exact WL.loc hX (by simp) (next T H2649 ⟨⟨w2653, g0, gx, gm, go, by omega, by omega⟩, ⟨_, tc, tm, cu, dr, _, _, _, _, _, ce8, q2704, gtc, h2712, q2706, gtm, h2713, q2708, gcu, q2710, gdr, h2714, h2715, h2716, h2717, h2718, hC1, hC2, h2719, h2725, (h2720).1, (h2724).1, hE, hZ, (by omega), (by assumption), (by omega), (by first | assumption | exact SG_0), q2722, gce8, h2711, h2723, a2665, gm⟩, by omega, by omega⟩ (by omega) (by omega))
      · refine wl_of hX hb cL_653 (rw_iconst (pc' := 654) rfl ?_)
        exfalso
        omega
  · show WL _ _ _ _ 646 [(4, vI i), (3, .ref o), (2, .ref m), (1, .ref x), (0, .ref 0)] [vI z2629] _ H2623
    refine wl_of hX hb cL_646 (rw_aload_n (pc' := 647) (v := .ref m) rfl rfl rfl ?_)
    have k2726 : wKI H2623 m = wKI H m := (wKI_fr hW gm f2628 rfl)
    have k2727 : H2623 x 9 = H x 9 := (f2628 x 9 _ gx rfl)
    have k2728 : H2623 m 6 = H m 6 := (f2628 m 6 _ gm rfl)
    have k2729 : H2623 x 11 = H x 11 := (f2628 x 11 _ gx rfl)
    have k2730 : H2623 m 13 = H m 13 := (f2628 m 13 _ gm rfl)
    have k2731 : H2623 x 8 = H x 8 := (f2628 x 8 _ gx rfl)
    have k2732 : H2623 m 3 = H m 3 := (f2628 m 3 _ gm rfl)
    have h2733 : RB T H2623 m e8 d8 := (RB_fr hW gm f2628 rfl hrb8)
    have h2734 : KNN T H2623 m e8 d8 := (KNN_fr hW gm f2628 rfl hknn8)
    refine wl_of hX hb cL_647 (xc_V (pc' := 650) (r := m) (as := []) (st := [vI z2629]) (lm_11_83) rfl rfl (Nat.le_of_ble_eq_true rfl) w2627 gm sh_42 (by decide) rfl (by decide) (u_240 (e := e8) (d := d8) w2627 gm (by omega) (by assumption) (by assumption) (by assumption) (by assumption) h2733 h2734) (fun R2735 T2736 H2737 p2738 => ?_))
    obtain ⟨e2739, w2741, f2742, z2743, e2740, b2744, p2745⟩ := p2738
    subst e2739
    subst e2740
    rcases p2745 with ⟨a2746, a2747, a2748, a2749⟩ | ⟨a2750, a2751, a2752, a2753⟩
    · show WL _ _ _ _ 650 [(4, vI i), (3, .ref o), (2, .ref m), (1, .ref x), (0, .ref 0)] [vI z2743, vI z2629] _ H2737
      refine wl_of hX hb cL_650 (rw_icmp_eq (p1 := 1653) (p2 := 653) (by decide) rfl ⟨b2630.1, b2630.2⟩ ⟨b2744.1, b2744.2⟩ (fun c2754 => ?_) (fun c2754 => ?_))
      · have k2755 : H2737 x 9 = H2623 x 9 := (f2742 x 9 _ gx rfl)
        have k2756 : H2737 m 6 = H2623 m 6 := (f2742 m 6 _ gm rfl)
        have k2757 : H2737 x 11 = H2623 x 11 := (f2742 x 11 _ gx rfl)
        have k2758 : H2737 m 13 = H2623 m 13 := (f2742 m 13 _ gm rfl)
        have k2759 : H2737 x 8 = H2623 x 8 := (f2742 x 8 _ gx rfl)
        have k2760 : H2737 m 3 = H2623 m 3 := (f2742 m 3 _ gm rfl)
        have k2761 : H2737 x 0 = H x 0 := ((f2742 x 0 _ gx rfl).trans (f2628 x 0 _ gx rfl))
        have q2762 : H2737 x 0 = (tc : Int) := k2761.trans e0
        have k2763 : H2737 m 5 = H m 5 := ((f2742 m 5 _ gm rfl).trans (f2628 m 5 _ gm rfl))
        have q2764 : H2737 m 5 = (tm : Int) := k2763.trans em
        have k2765 : H2737 x 6 = H x 6 := ((f2742 x 6 _ gx rfl).trans (f2628 x 6 _ gx rfl))
        have q2766 : H2737 x 6 = (cu : Int) := k2765.trans ecu
        have k2767 : H2737 x 7 = H x 7 := ((f2742 x 7 _ gx rfl).trans (f2628 x 7 _ gx rfl))
        have q2768 : H2737 x 7 = (dr : Int) := k2767.trans edr
        have h2769 : CEN T H2737 ce8 e8 d8 := (CEN_fr w2627 gce8 f2742 rfl a2637)
        have h2770 : TP T H2737 tc B := (TP_fr w2627 gtc f2742 rfl (TP_fr hW gtc f2628 rfl htc))
        have h2771 : TM T H2737 tm B := (TM_fr w2627 gtm f2742 rfl (TM_fr hW gtm f2628 rfl htm))
        have h2772 : DD T H2737 cu  := (DD_fr w2627 gcu f2742 rfl (DD_fr hW gcu f2628 rfl hcu))
        have h2773 : DD T H2737 dr  := (DD_fr w2627 gdr f2742 rfl (DD_fr hW gdr f2628 rfl hdr))
        have h2774 : DE T H2737 cu  := (DE_fr w2627 gcu f2742 rfl (DE_fr hW gcu f2628 rfl hdec))
        have h2775 : DE T H2737 dr  := (DE_fr w2627 gdr f2742 rfl (DE_fr hW gdr f2628 rfl hded))
        have h2776 : SP T H2737 x C8 := (SP_fr w2627 gx f2742 rfl (SP_fr hW gx f2628 rfl hsp))
        have h2777 : CU T H2737 cu e8 d8 n8 := (CU_fr w2627 gcu f2742 rfl (CU_fr hW gcu f2628 rfl hcu8))
        have h2778 : CY T H2737 cu (d8 0 3) g8 (H cu 17) := (CY_fr w2627 gcu f2742 rfl (CY_fr hW gcu f2628 rfl h2616))
        have k2779 : H2737 x 3 = H x 3 := ((f2742 x 3 _ gx rfl).trans (f2628 x 3 _ gx rfl))
        have q2780 : H2737 x 3 = (ce8 : Int) := k2779.trans ece8
        have h2781 : HDR T H2737 ce8  := (HDR_fr w2627 gce8 f2742 rfl (HDR_fr hW gce8 f2628 rfl hhdr8))
        have h2782 : RY T H2737 m (d8 0 3) g8 (H m 32) := (RY_fr w2627 gm f2742 rfl (RY_fr hW gm f2628 rfl h2617))
        have h2783 : RB T H2737 m e8 d8 := (RB_fr w2627 gm f2742 rfl h2733)
        exact WL.loc hX (by simp) (next T H2737 ⟨⟨w2741, g0, gx, gm, go, by omega, by omega⟩, ⟨_, tc, tm, cu, dr, _, _, _, _, _, ce8, q2762, gtc, h2770, q2764, gtm, h2771, q2766, gcu, q2768, gdr, h2772, h2773, h2774, h2775, h2776, hC1, hC2, h2777, h2783, (h2778).1, (h2782).1, hE, hZ, (by omega), (by assumption), (by omega), (by first | assumption | exact SG_0), q2780, gce8, h2769, h2781, a2749, gm⟩, by omega, by omega⟩ (by omega) (by omega))
      · refine wl_of hX hb cL_653 (rw_iconst (pc' := 654) rfl ?_)
        exfalso
        omega
    · show WL _ _ _ _ 650 [(4, vI i), (3, .ref o), (2, .ref m), (1, .ref x), (0, .ref 0)] [vI z2743, vI z2629] _ H2737
      refine wl_of hX hb cL_650 (rw_icmp_eq (p1 := 1653) (p2 := 653) (by decide) rfl ⟨b2630.1, b2630.2⟩ ⟨b2744.1, b2744.2⟩ (fun c2784 => ?_) (fun c2784 => ?_))
      · have k2785 : H2737 x 9 = H2623 x 9 := (f2742 x 9 _ gx rfl)
        have k2786 : H2737 m 6 = H2623 m 6 := (f2742 m 6 _ gm rfl)
        have k2787 : H2737 x 11 = H2623 x 11 := (f2742 x 11 _ gx rfl)
        have k2788 : H2737 m 13 = H2623 m 13 := (f2742 m 13 _ gm rfl)
        have k2789 : H2737 x 8 = H2623 x 8 := (f2742 x 8 _ gx rfl)
        have k2790 : H2737 m 3 = H2623 m 3 := (f2742 m 3 _ gm rfl)
        have k2791 : H2737 x 0 = H x 0 := ((f2742 x 0 _ gx rfl).trans (f2628 x 0 _ gx rfl))
        have q2792 : H2737 x 0 = (tc : Int) := k2791.trans e0
        have k2793 : H2737 m 5 = H m 5 := ((f2742 m 5 _ gm rfl).trans (f2628 m 5 _ gm rfl))
        have q2794 : H2737 m 5 = (tm : Int) := k2793.trans em
        have k2795 : H2737 x 6 = H x 6 := ((f2742 x 6 _ gx rfl).trans (f2628 x 6 _ gx rfl))
        have q2796 : H2737 x 6 = (cu : Int) := k2795.trans ecu
        have k2797 : H2737 x 7 = H x 7 := ((f2742 x 7 _ gx rfl).trans (f2628 x 7 _ gx rfl))
        have q2798 : H2737 x 7 = (dr : Int) := k2797.trans edr
        have h2799 : CEN T H2737 ce8 e8 d8 := (CEN_fr w2627 gce8 f2742 rfl a2637)
        have h2800 : TP T H2737 tc B := (TP_fr w2627 gtc f2742 rfl (TP_fr hW gtc f2628 rfl htc))
        have h2801 : TM T H2737 tm B := (TM_fr w2627 gtm f2742 rfl (TM_fr hW gtm f2628 rfl htm))
        have h2802 : DD T H2737 cu  := (DD_fr w2627 gcu f2742 rfl (DD_fr hW gcu f2628 rfl hcu))
        have h2803 : DD T H2737 dr  := (DD_fr w2627 gdr f2742 rfl (DD_fr hW gdr f2628 rfl hdr))
        have h2804 : DE T H2737 cu  := (DE_fr w2627 gcu f2742 rfl (DE_fr hW gcu f2628 rfl hdec))
        have h2805 : DE T H2737 dr  := (DE_fr w2627 gdr f2742 rfl (DE_fr hW gdr f2628 rfl hded))
        have h2806 : SP T H2737 x C8 := (SP_fr w2627 gx f2742 rfl (SP_fr hW gx f2628 rfl hsp))
        have h2807 : CU T H2737 cu e8 d8 n8 := (CU_fr w2627 gcu f2742 rfl (CU_fr hW gcu f2628 rfl hcu8))
        have h2808 : CY T H2737 cu (d8 0 3) g8 (H cu 17) := (CY_fr w2627 gcu f2742 rfl (CY_fr hW gcu f2628 rfl h2616))
        have k2809 : H2737 x 3 = H x 3 := ((f2742 x 3 _ gx rfl).trans (f2628 x 3 _ gx rfl))
        have q2810 : H2737 x 3 = (ce8 : Int) := k2809.trans ece8
        have h2811 : HDR T H2737 ce8  := (HDR_fr w2627 gce8 f2742 rfl (HDR_fr hW gce8 f2628 rfl hhdr8))
        have h2812 : RY T H2737 m (d8 0 3) g8 (H m 32) := (RY_fr w2627 gm f2742 rfl (RY_fr hW gm f2628 rfl h2617))
        have h2813 : RB T H2737 m e8 d8 := (RB_fr w2627 gm f2742 rfl h2733)
        exact WL.loc hX (by simp) (next T H2737 ⟨⟨w2741, g0, gx, gm, go, by omega, by omega⟩, ⟨_, tc, tm, cu, dr, _, _, _, _, _, ce8, q2792, gtc, h2800, q2794, gtm, h2801, q2796, gcu, q2798, gdr, h2802, h2803, h2804, h2805, h2806, hC1, hC2, h2807, h2813, (h2808).1, (h2812).1, hE, hZ, (by omega), (by assumption), (by omega), (by first | assumption | exact SG_0), q2810, gce8, h2799, h2811, a2753, gm⟩, by omega, by omega⟩ (by omega) (by omega))
      · refine wl_of hX hb cL_653 (rw_iconst (pc' := 654) rfl ?_)
        exfalso
        omega
set_option maxHeartbeats 4000000 in
theorem wl_c15 {kt : Nat → Option mc_E} {CB SB : Nat} {X : mc_S → Prop} {T : wq_T} {H : wq_H} {Len x m o : Nat} {i : Int} (hX : wlX kt CB SB X) (hb : T.2.1 ≤ CB ∧ T.2.2.1 ≤ SB) (hI : wlJ Len x m o T H) (hL : Len ≤ 3072) (hi : 0 ≤ i ∧ i + 6 ≤ Len) (hb2 : T.2.1 + 20 ≤ CB ∧ T.2.2.1 + 500 ≤ SB)  (next : ∀ T' H', wlJ Len x m o T' H' → T'.2.1 ≤ T.2.1 + 20 → T'.2.2.1 ≤ T.2.2.1 + 500 → WL kt CB SB X 1653 (wlL i x m o) [] T' H') : WL kt CB SB X 655 (wlL i x m o) [] T H := by
  obtain ⟨⟨hW, g0, gx, gm, go, hK, hr⟩, hXI, hY1, hY2⟩ := hI
  refine wl_of hX hb cL_655 (rw_aload_n (pc' := 656) (v := .ref x) rfl rfl rfl ?_)
  obtain ⟨B, tc, tm, cu, dr, C8, e8, d8, n8, g8, ce8, e0, gtc, htc, em, gtm, htm, ecu, gcu, edr, gdr, hcu, hdr, hdec, hded, hsp, hC1, hC2, hcu8, hrb8, hcg8, hmn8, hE, hZ, hn8, hXA, hV8, hSG, ece8, gce8, hcen8, hhdr8, hknn8, -⟩ := hXI
  have hN3 := RB_n3 hrb8
  have hE13 : ∀ h : Nat, h < 24 → 0 ≤ e8 13 h ∧ e8 13 h ≤ 100 := fun k hk => by
    obtain ⟨s, h1, h2, h3⟩ := hcu8.1.2.2.1
    exact ⟨(h3 k hk).1, (h3 k hk).2.1⟩
  have hXW := hXA.1
  have hXN := hXA.2
  have hE0 : e8 0 3 = d8 0 3 ∧ e8 0 0 = d8 0 0 := by
    have h := hE 0 (by decide)
    exact ⟨congrFun h 3, congrFun h 0⟩
  have u2814 := CU_k hcu8
  have h2815 : CY T H cu (d8 0 3) g8 (H cu 17) := ⟨hcg8, rfl⟩
  have h2816 : RY T H m (d8 0 3) g8 (H m 32) := ⟨hmn8, rfl⟩
  obtain ⟨t9, ht9⟩ : ∃ t : Int, t = H x 9 := ⟨_, rfl⟩
  obtain ⟨r2817, q2818, g2819⟩ := hW.ref gx (t' := 6) (n := 13) (j := 2) (p := 0) (q := 0) rfl (by decide) rfl
  refine wl_of hX hb cL_656 (xc_V (pc' := 659) (r := x) (as := []) (st := []) (lm_11_84) rfl rfl (Nat.le_of_ble_eq_true rfl) hW gx sh_1 (by decide) rfl (by decide) (u_92 (e := e8) (d := d8) (n := n8) hW gx ecu gcu q2818 g2819 ece8 gce8 (by assumption) (by assumption) (by omega) (by omega) (by omega) (by omega) hcu8 hcen8 hhdr8) (fun R2820 T2821 H2822 p2823 => ?_))
  obtain ⟨e2824, w2826, f2827, z2828, e2825, b2829, p2830⟩ := p2823
  subst e2824
  subst e2825
  rcases p2830 with ⟨a2831, a2832, a2833⟩ | ⟨a2834, a2835, a2836, a2837⟩
  · show WL _ _ _ _ 659 [(4, vI i), (3, .ref o), (2, .ref m), (1, .ref x), (0, .ref 0)] [vI z2828] _ H2822
    refine wl_of hX hb cL_659 (rw_pop (pc' := 660) rfl rfl ?_)
    refine wl_of hX hb cL_660 (rw_aload_n (pc' := 661) (v := .ref m) rfl rfl rfl ?_)
    have k2838 : wKI H2822 m = wKI H m := (wKI_fr hW gm f2827 rfl)
    have k2839 : H2822 x 9 = H x 9 := (f2827 x 9 _ gx rfl)
    have k2840 : H2822 m 6 = H m 6 := (f2827 m 6 _ gm rfl)
    have k2841 : H2822 x 11 = H x 11 := (f2827 x 11 _ gx rfl)
    have k2842 : H2822 m 13 = H m 13 := (f2827 m 13 _ gm rfl)
    have k2843 : H2822 x 8 = H x 8 := (f2827 x 8 _ gx rfl)
    have k2844 : H2822 m 3 = H m 3 := (f2827 m 3 _ gm rfl)
    have h2845 : RB T H2822 m e8 d8 := (RB_fr hW gm f2827 rfl hrb8)
    have h2846 : KNN T H2822 m e8 d8 := (KNN_fr hW gm f2827 rfl hknn8)
    refine wl_of hX hb cL_661 (xc_V (pc' := 664) (r := m) (as := []) (st := []) (lm_11_87) rfl rfl (Nat.le_of_ble_eq_true rfl) w2826 gm sh_42 (by decide) rfl (by decide) (u_244 (e := e8) (d := d8) w2826 gm (by omega) (by assumption) (by assumption) (by assumption) (by assumption) h2845 h2846) (fun R2847 T2848 H2849 p2850 => ?_))
    obtain ⟨e2851, w2853, f2854, z2855, e2852, b2856, p2857⟩ := p2850
    subst e2851
    subst e2852
    rcases p2857 with ⟨a2858, a2859, a2860, a2861⟩ | ⟨a2862, a2863, a2864, a2865, a2866⟩
    · show WL _ _ _ _ 664 [(4, vI i), (3, .ref o), (2, .ref m), (1, .ref x), (0, .ref 0)] [vI z2855] _ H2849
      refine wl_of hX hb cL_664 (rw_pop (pc' := 665) rfl rfl ?_)
      refine wl_of hX hb cL_665 (rw_goto (p1 := 1653) (by decide) ?_)
      have k2867 : H2849 x 9 = H2822 x 9 := (f2854 x 9 _ gx rfl)
      have k2868 : H2849 m 6 = H2822 m 6 := (f2854 m 6 _ gm rfl)
      have k2869 : H2849 x 11 = H2822 x 11 := (f2854 x 11 _ gx rfl)
      have k2870 : H2849 m 13 = H2822 m 13 := (f2854 m 13 _ gm rfl)
      have k2871 : H2849 x 8 = H2822 x 8 := (f2854 x 8 _ gx rfl)
      have k2872 : H2849 m 3 = H2822 m 3 := (f2854 m 3 _ gm rfl)
      have k2873 : H2849 x 0 = H x 0 := ((f2854 x 0 _ gx rfl).trans (f2827 x 0 _ gx rfl))
      have q2874 : H2849 x 0 = (tc : Int) := k2873.trans e0
      have k2875 : H2849 m 5 = H m 5 := ((f2854 m 5 _ gm rfl).trans (f2827 m 5 _ gm rfl))
      have q2876 : H2849 m 5 = (tm : Int) := k2875.trans em
      have k2877 : H2849 x 6 = H x 6 := ((f2854 x 6 _ gx rfl).trans (f2827 x 6 _ gx rfl))
      have q2878 : H2849 x 6 = (cu : Int) := k2877.trans ecu
      have k2879 : H2849 x 7 = H x 7 := ((f2854 x 7 _ gx rfl).trans (f2827 x 7 _ gx rfl))
      have q2880 : H2849 x 7 = (dr : Int) := k2879.trans edr
      have h2881 : CEN T H2849 ce8 e8 d8 := (CEN_fr w2826 gce8 f2854 rfl a2833)
      have h2882 : TP T H2849 tc B := (TP_fr w2826 gtc f2854 rfl (TP_fr hW gtc f2827 rfl htc))
      have h2883 : TM T H2849 tm B := (TM_fr w2826 gtm f2854 rfl (TM_fr hW gtm f2827 rfl htm))
      have h2884 : DD T H2849 cu  := (DD_fr w2826 gcu f2854 rfl (DD_fr hW gcu f2827 rfl hcu))
      have h2885 : DD T H2849 dr  := (DD_fr w2826 gdr f2854 rfl (DD_fr hW gdr f2827 rfl hdr))
      have h2886 : DE T H2849 cu  := (DE_fr w2826 gcu f2854 rfl (DE_fr hW gcu f2827 rfl hdec))
      have h2887 : DE T H2849 dr  := (DE_fr w2826 gdr f2854 rfl (DE_fr hW gdr f2827 rfl hded))
      have h2888 : SP T H2849 x C8 := (SP_fr w2826 gx f2854 rfl (SP_fr hW gx f2827 rfl hsp))
      have h2889 : CU T H2849 cu e8 d8 n8 := (CU_fr w2826 gcu f2854 rfl (CU_fr hW gcu f2827 rfl hcu8))
      have h2890 : CY T H2849 cu (d8 0 3) g8 (H cu 17) := (CY_fr w2826 gcu f2854 rfl (CY_fr hW gcu f2827 rfl h2815))
      have k2891 : H2849 x 3 = H x 3 := ((f2854 x 3 _ gx rfl).trans (f2827 x 3 _ gx rfl))
      have q2892 : H2849 x 3 = (ce8 : Int) := k2891.trans ece8
      have h2893 : HDR T H2849 ce8  := (HDR_fr w2826 gce8 f2854 rfl (HDR_fr hW gce8 f2827 rfl hhdr8))
      have h2894 : RY T H2849 m (d8 0 3) g8 (H m 32) := (RY_fr w2826 gm f2854 rfl (RY_fr hW gm f2827 rfl h2816))
      have h2895 : RB T H2849 m e8 d8 := (RB_fr w2826 gm f2854 rfl h2845)
      exact WL.loc hX (by simp) (next T H2849 ⟨⟨w2853, g0, gx, gm, go, by omega, by omega⟩, ⟨_, tc, tm, cu, dr, _, _, _, _, _, ce8, q2874, gtc, h2882, q2876, gtm, h2883, q2878, gcu, q2880, gdr, h2884, h2885, h2886, h2887, h2888, hC1, hC2, h2889, h2895, (h2890).1, (h2894).1, hE, hZ, (by omega), (by assumption), (by omega), (by first | assumption | exact SG_0), q2892, gce8, h2881, h2893, a2861, gm⟩, by omega, by omega⟩ (by omega) (by omega))
    · show WL _ _ _ _ 664 [(4, vI i), (3, .ref o), (2, .ref m), (1, .ref x), (0, .ref 0)] [vI z2855] _ H2849
      refine wl_of hX hb cL_664 (rw_pop (pc' := 665) rfl rfl ?_)
      refine wl_of hX hb cL_665 (rw_goto (p1 := 1653) (by decide) ?_)
      have k2896 : H2849 x 9 = H2822 x 9 := (f2854 x 9 _ gx rfl)
      have k2897 : H2849 m 6 = H2822 m 6 := (f2854 m 6 _ gm rfl)
      have k2898 : H2849 x 11 = H2822 x 11 := (f2854 x 11 _ gx rfl)
      have k2899 : H2849 m 13 = H2822 m 13 := (f2854 m 13 _ gm rfl)
      have k2900 : H2849 x 8 = H2822 x 8 := (f2854 x 8 _ gx rfl)
      have k2901 : H2849 m 3 = H2822 m 3 := (f2854 m 3 _ gm rfl)
      have k2902 : H2849 x 0 = H x 0 := ((f2854 x 0 _ gx rfl).trans (f2827 x 0 _ gx rfl))
      have q2903 : H2849 x 0 = (tc : Int) := k2902.trans e0
      have k2904 : H2849 m 5 = H m 5 := ((f2854 m 5 _ gm rfl).trans (f2827 m 5 _ gm rfl))
      have q2905 : H2849 m 5 = (tm : Int) := k2904.trans em
      have k2906 : H2849 x 6 = H x 6 := ((f2854 x 6 _ gx rfl).trans (f2827 x 6 _ gx rfl))
      have q2907 : H2849 x 6 = (cu : Int) := k2906.trans ecu
      have k2908 : H2849 x 7 = H x 7 := ((f2854 x 7 _ gx rfl).trans (f2827 x 7 _ gx rfl))
      have q2909 : H2849 x 7 = (dr : Int) := k2908.trans edr
      have h2910 : CEN T H2849 ce8 e8 d8 := (CEN_fr w2826 gce8 f2854 rfl a2833)
      have h2911 : TP T H2849 tc B := (TP_fr w2826 gtc f2854 rfl (TP_fr hW gtc f2827 rfl htc))
      have h2912 : TM T H2849 tm B := (TM_fr w2826 gtm f2854 rfl (TM_fr hW gtm f2827 rfl htm))
      have h2913 : DD T H2849 cu  := (DD_fr w2826 gcu f2854 rfl (DD_fr hW gcu f2827 rfl hcu))
      have h2914 : DD T H2849 dr  := (DD_fr w2826 gdr f2854 rfl (DD_fr hW gdr f2827 rfl hdr))
      have h2915 : DE T H2849 cu  := (DE_fr w2826 gcu f2854 rfl (DE_fr hW gcu f2827 rfl hdec))
      have h2916 : DE T H2849 dr  := (DE_fr w2826 gdr f2854 rfl (DE_fr hW gdr f2827 rfl hded))
      have h2917 : SP T H2849 x C8 := (SP_fr w2826 gx f2854 rfl (SP_fr hW gx f2827 rfl hsp))
      have h2918 : CU T H2849 cu e8 d8 n8 := (CU_fr w2826 gcu f2854 rfl (CU_fr hW gcu f2827 rfl hcu8))
      have h2919 : CY T H2849 cu (d8 0 3) g8 (H cu 17) := (CY_fr w2826 gcu f2854 rfl (CY_fr hW gcu f2827 rfl h2815))
      have k2920 : H2849 x 3 = H x 3 := ((f2854 x 3 _ gx rfl).trans (f2827 x 3 _ gx rfl))
      have q2921 : H2849 x 3 = (ce8 : Int) := k2920.trans ece8
      have h2922 : HDR T H2849 ce8  := (HDR_fr w2826 gce8 f2854 rfl (HDR_fr hW gce8 f2827 rfl hhdr8))
      have h2923 : RY T H2849 m (d8 0 3) g8 (H m 32) := (RY_fr w2826 gm f2854 rfl (RY_fr hW gm f2827 rfl h2816))
      have h2924 : RB T H2849 m e8 d8 := (RB_fr w2826 gm f2854 rfl h2845)
      exact WL.loc hX (by simp) (next T H2849 ⟨⟨w2853, g0, gx, gm, go, by omega, by omega⟩, ⟨_, tc, tm, cu, dr, _, _, _, _, _, ce8, q2903, gtc, h2911, q2905, gtm, h2912, q2907, gcu, q2909, gdr, h2913, h2914, h2915, h2916, h2917, hC1, hC2, h2918, h2924, (h2919).1, (h2923).1, hE, hZ, (by omega), (by assumption), (by omega), (by first | assumption | exact SG_0), q2921, gce8, h2910, h2922, a2866, gm⟩, by omega, by omega⟩ (by omega) (by omega))
  · show WL _ _ _ _ 659 [(4, vI i), (3, .ref o), (2, .ref m), (1, .ref x), (0, .ref 0)] [vI z2828] _ H2822
    refine wl_of hX hb cL_659 (rw_pop (pc' := 660) rfl rfl ?_)
    refine wl_of hX hb cL_660 (rw_aload_n (pc' := 661) (v := .ref m) rfl rfl rfl ?_)
    have k2925 : wKI H2822 m = wKI H m := (wKI_fr hW gm f2827 rfl)
    have k2926 : H2822 x 9 = H x 9 := (f2827 x 9 _ gx rfl)
    have k2927 : H2822 m 6 = H m 6 := (f2827 m 6 _ gm rfl)
    have k2928 : H2822 x 11 = H x 11 := (f2827 x 11 _ gx rfl)
    have k2929 : H2822 m 13 = H m 13 := (f2827 m 13 _ gm rfl)
    have k2930 : H2822 x 8 = H x 8 := (f2827 x 8 _ gx rfl)
    have k2931 : H2822 m 3 = H m 3 := (f2827 m 3 _ gm rfl)
    have h2932 : RB T H2822 m e8 d8 := (RB_fr hW gm f2827 rfl hrb8)
    have h2933 : KNN T H2822 m e8 d8 := (KNN_fr hW gm f2827 rfl hknn8)
    refine wl_of hX hb cL_661 (xc_V (pc' := 664) (r := m) (as := []) (st := []) (lm_11_87) rfl rfl (Nat.le_of_ble_eq_true rfl) w2826 gm sh_42 (by decide) rfl (by decide) (u_244 (e := e8) (d := d8) w2826 gm (by omega) (by assumption) (by assumption) (by assumption) (by assumption) h2932 h2933) (fun R2934 T2935 H2936 p2937 => ?_))
    obtain ⟨e2938, w2940, f2941, z2942, e2939, b2943, p2944⟩ := p2937
    subst e2938
    subst e2939
    rcases p2944 with ⟨a2945, a2946, a2947, a2948⟩ | ⟨a2949, a2950, a2951, a2952, a2953⟩
    · show WL _ _ _ _ 664 [(4, vI i), (3, .ref o), (2, .ref m), (1, .ref x), (0, .ref 0)] [vI z2942] _ H2936
      refine wl_of hX hb cL_664 (rw_pop (pc' := 665) rfl rfl ?_)
      refine wl_of hX hb cL_665 (rw_goto (p1 := 1653) (by decide) ?_)
      have k2954 : H2936 x 9 = H2822 x 9 := (f2941 x 9 _ gx rfl)
      have k2955 : H2936 m 6 = H2822 m 6 := (f2941 m 6 _ gm rfl)
      have k2956 : H2936 x 11 = H2822 x 11 := (f2941 x 11 _ gx rfl)
      have k2957 : H2936 m 13 = H2822 m 13 := (f2941 m 13 _ gm rfl)
      have k2958 : H2936 x 8 = H2822 x 8 := (f2941 x 8 _ gx rfl)
      have k2959 : H2936 m 3 = H2822 m 3 := (f2941 m 3 _ gm rfl)
      have k2960 : H2936 x 0 = H x 0 := ((f2941 x 0 _ gx rfl).trans (f2827 x 0 _ gx rfl))
      have q2961 : H2936 x 0 = (tc : Int) := k2960.trans e0
      have k2962 : H2936 m 5 = H m 5 := ((f2941 m 5 _ gm rfl).trans (f2827 m 5 _ gm rfl))
      have q2963 : H2936 m 5 = (tm : Int) := k2962.trans em
      have k2964 : H2936 x 6 = H x 6 := ((f2941 x 6 _ gx rfl).trans (f2827 x 6 _ gx rfl))
      have q2965 : H2936 x 6 = (cu : Int) := k2964.trans ecu
      have k2966 : H2936 x 7 = H x 7 := ((f2941 x 7 _ gx rfl).trans (f2827 x 7 _ gx rfl))
      have q2967 : H2936 x 7 = (dr : Int) := k2966.trans edr
      have h2968 : CEN T H2936 ce8 e8 d8 := (CEN_fr w2826 gce8 f2941 rfl a2837)
      have h2969 : TP T H2936 tc B := (TP_fr w2826 gtc f2941 rfl (TP_fr hW gtc f2827 rfl htc))
      have h2970 : TM T H2936 tm B := (TM_fr w2826 gtm f2941 rfl (TM_fr hW gtm f2827 rfl htm))
      have h2971 : DD T H2936 cu  := (DD_fr w2826 gcu f2941 rfl (DD_fr hW gcu f2827 rfl hcu))
      have h2972 : DD T H2936 dr  := (DD_fr w2826 gdr f2941 rfl (DD_fr hW gdr f2827 rfl hdr))
      have h2973 : DE T H2936 cu  := (DE_fr w2826 gcu f2941 rfl (DE_fr hW gcu f2827 rfl hdec))
      have h2974 : DE T H2936 dr  := (DE_fr w2826 gdr f2941 rfl (DE_fr hW gdr f2827 rfl hded))
      have h2975 : SP T H2936 x C8 := (SP_fr w2826 gx f2941 rfl (SP_fr hW gx f2827 rfl hsp))
      have h2976 : CU T H2936 cu e8 d8 n8 := (CU_fr w2826 gcu f2941 rfl (CU_fr hW gcu f2827 rfl hcu8))
      have h2977 : CY T H2936 cu (d8 0 3) g8 (H cu 17) := (CY_fr w2826 gcu f2941 rfl (CY_fr hW gcu f2827 rfl h2815))
      have k2978 : H2936 x 3 = H x 3 := ((f2941 x 3 _ gx rfl).trans (f2827 x 3 _ gx rfl))
      have q2979 : H2936 x 3 = (ce8 : Int) := k2978.trans ece8
      have h2980 : HDR T H2936 ce8  := (HDR_fr w2826 gce8 f2941 rfl (HDR_fr hW gce8 f2827 rfl hhdr8))
      have h2981 : RY T H2936 m (d8 0 3) g8 (H m 32) := (RY_fr w2826 gm f2941 rfl (RY_fr hW gm f2827 rfl h2816))
      have h2982 : RB T H2936 m e8 d8 := (RB_fr w2826 gm f2941 rfl h2932)
      exact WL.loc hX (by simp) (next T H2936 ⟨⟨w2940, g0, gx, gm, go, by omega, by omega⟩, ⟨_, tc, tm, cu, dr, _, _, _, _, _, ce8, q2961, gtc, h2969, q2963, gtm, h2970, q2965, gcu, q2967, gdr, h2971, h2972, h2973, h2974, h2975, hC1, hC2, h2976, h2982, (h2977).1, (h2981).1, hE, hZ, (by omega), (by assumption), (by omega), (by first | assumption | exact SG_0), q2979, gce8, h2968, h2980, a2948, gm⟩, by omega, by omega⟩ (by omega) (by omega))
    · show WL _ _ _ _ 664 [(4, vI i), (3, .ref o), (2, .ref m), (1, .ref x), (0, .ref 0)] [vI z2942] _ H2936
      refine wl_of hX hb cL_664 (rw_pop (pc' := 665) rfl rfl ?_)
      refine wl_of hX hb cL_665 (rw_goto (p1 := 1653) (by decide) ?_)
      have k2983 : H2936 x 9 = H2822 x 9 := (f2941 x 9 _ gx rfl)
      have k2984 : H2936 m 6 = H2822 m 6 := (f2941 m 6 _ gm rfl)
      have k2985 : H2936 x 11 = H2822 x 11 := (f2941 x 11 _ gx rfl)
      have k2986 : H2936 m 13 = H2822 m 13 := (f2941 m 13 _ gm rfl)
      have k2987 : H2936 x 8 = H2822 x 8 := (f2941 x 8 _ gx rfl)
      have k2988 : H2936 m 3 = H2822 m 3 := (f2941 m 3 _ gm rfl)
      have k2989 : H2936 x 0 = H x 0 := ((f2941 x 0 _ gx rfl).trans (f2827 x 0 _ gx rfl))
      have q2990 : H2936 x 0 = (tc : Int) := k2989.trans e0
      have k2991 : H2936 m 5 = H m 5 := ((f2941 m 5 _ gm rfl).trans (f2827 m 5 _ gm rfl))
      have q2992 : H2936 m 5 = (tm : Int) := k2991.trans em
      have k2993 : H2936 x 6 = H x 6 := ((f2941 x 6 _ gx rfl).trans (f2827 x 6 _ gx rfl))
      have q2994 : H2936 x 6 = (cu : Int) := k2993.trans ecu
      have k2995 : H2936 x 7 = H x 7 := ((f2941 x 7 _ gx rfl).trans (f2827 x 7 _ gx rfl))
      have q2996 : H2936 x 7 = (dr : Int) := k2995.trans edr
      have h2997 : CEN T H2936 ce8 e8 d8 := (CEN_fr w2826 gce8 f2941 rfl a2837)
      have h2998 : TP T H2936 tc B := (TP_fr w2826 gtc f2941 rfl (TP_fr hW gtc f2827 rfl htc))
      have h2999 : TM T H2936 tm B := (TM_fr w2826 gtm f2941 rfl (TM_fr hW gtm f2827 rfl htm))
      have h3000 : DD T H2936 cu  := (DD_fr w2826 gcu f2941 rfl (DD_fr hW gcu f2827 rfl hcu))
      have h3001 : DD T H2936 dr  := (DD_fr w2826 gdr f2941 rfl (DD_fr hW gdr f2827 rfl hdr))
      have h3002 : DE T H2936 cu  := (DE_fr w2826 gcu f2941 rfl (DE_fr hW gcu f2827 rfl hdec))
      have h3003 : DE T H2936 dr  := (DE_fr w2826 gdr f2941 rfl (DE_fr hW gdr f2827 rfl hded))
      have h3004 : SP T H2936 x C8 := (SP_fr w2826 gx f2941 rfl (SP_fr hW gx f2827 rfl hsp))
      have h3005 : CU T H2936 cu e8 d8 n8 := (CU_fr w2826 gcu f2941 rfl (CU_fr hW gcu f2827 rfl hcu8))
      have h3006 : CY T H2936 cu (d8 0 3) g8 (H cu 17) := (CY_fr w2826 gcu f2941 rfl (CY_fr hW gcu f2827 rfl h2815))
      have k3007 : H2936 x 3 = H x 3 := ((f2941 x 3 _ gx rfl).trans (f2827 x 3 _ gx rfl))
      have q3008 : H2936 x 3 = (ce8 : Int) := k3007.trans ece8
      have h3009 : HDR T H2936 ce8  := (HDR_fr w2826 gce8 f2941 rfl (HDR_fr hW gce8 f2827 rfl hhdr8))
      have h3010 : RY T H2936 m (d8 0 3) g8 (H m 32) := (RY_fr w2826 gm f2941 rfl (RY_fr hW gm f2827 rfl h2816))
      have h3011 : RB T H2936 m e8 d8 := (RB_fr w2826 gm f2941 rfl h2932)
      exact WL.loc hX (by simp) (next T H2936 ⟨⟨w2940, g0, gx, gm, go, by omega, by omega⟩, ⟨_, tc, tm, cu, dr, _, _, _, _, _, ce8, q2990, gtc, h2998, q2992, gtm, h2999, q2994, gcu, q2996, gdr, h3000, h3001, h3002, h3003, h3004, hC1, hC2, h3005, h3011, (h3006).1, (h3010).1, hE, hZ, (by omega), (by assumption), (by omega), (by first | assumption | exact SG_0), q3008, gce8, h2997, h3009, a2953, gm⟩, by omega, by omega⟩ (by omega) (by omega))
