/-! what methods do (own work, written by wip/gen3/sx3.py) -/
/-! StrikeAwake$Grounds.gather(LStrikeAwake$Parish;LStrikeAwake$Walk;)V  -/
abbrev uq_139 (r0 : Nat) (r1 : Nat) (r2 : Nat) (e : xD) (d : xD) (n : Int) (T : wq_T) (H : wq_H) : Option Value → wq_T → wq_H → Prop := fun r T' H' => T = T' ∧ WT T H' ∧ wfr [(25, 1), (25, 2), (6, 5), (8, 999), (10, 999), (26, 999), (9, 999), (7, 999), (11, 999)] T H H' ∧ none = r ∧ (((H' r0 1 = xcn (xnq d) (xlots d).toNat) ∧ GF0 T H' r0 (xcn (xnq d) (xlots d).toNat) (xgf e d (xlots d).toNat)))
set_option maxHeartbeats 4000000 in
theorem u_139 {kt : Nat → Option mc_E} {T : wq_T} {H : wq_H} {r0 : Nat} {r1 : Nat} {r2 : Nat} {e : xD} {d : xD} {n : Int} (hW : WT T H) (g0 : T.2.2.2 r0 = some 25) (g1 : T.2.2.2 r1 = some 27) (g2 : T.2.2.2 r2 = some 6) (p0 : ∀ i, i ≠ 13 → e i = d i) (p1 : XW d) (p2 : e 0 3 = d 0 3) (p3 : n = xlots d) (p4 : e 0 0 = d 0 0) (p5 : n ≤ 5000) (hCU_r1 : CU T H r1 e d n) : wpc kt 4 139 [.ref r0, .ref r1, .ref r2] T H (uq_139 r0 r1 r2 e d n T H) := by
  refine wp_enter e139 (Nat.le_of_ble_eq_true rfl) rfl ?_
  have f0 : wfr [(25, 1), (25, 2), (6, 5), (8, 999), (10, 999), (26, 999), (9, 999), (7, 999), (11, 999)] T H H := wfr.rf
  show wp _ _ 139 0 [(0, .ref r0), (1, .ref r1), (2, .ref r2)] [] _ H _
  have u1681 := CU_k hCU_r1
  have b1682 : (-9223372036854775808) ≤ H r1 18 ∧ H r1 18 ≤ 9223372036854775807 := hW.box g1 (n := 19) rfl (by decide) rfl
  have _k := CU_k hCU_r1
  have _xc := p1.2.1
  unfold XC at _xc
  have _d0 := p0 0 (by decide)
  have _e3 : e 0 3 = d 0 3 := by rw [_d0]
  have _e4 : e 0 4 = d 0 4 := by rw [_d0]
  have _e5 : e 0 5 = d 0 5 := by rw [_d0]
  have _c18 := hCU_r1.2.2
  have _x0 : 0 ≤ xlots d := (xpr_b hCU_r1.2.1.1 _ _).1
  have _nb := xcn_b (f := xnq d) (xlots d).toNat
  refine wp_of e139 c139_0 (rw_aload_n (pc' := 1) (v := .ref r0) rfl rfl rfl ?_)
  refine wp_of e139 c139_1 (rw_iconst (pc' := 2) rfl ?_)
  refine wp_of e139 c139_2 (xp_I (pc' := 5) lf_6_68 hW g0 sh_25 (by decide) (by decide) ty_25_1 rfl rfl (by decide) (by decide) ⟨by decide, by decide⟩ rfl (fun H1683 e1684 w1685 => ?_))
  have f1686 := f0.put' e1684 g0 rfl
  have k1687 : H1683 r0 1 = 0 := wq_u_s e1684
  refine wp_of e139 c139_5 (rw_aload_n (pc' := 6) (v := .ref r0) rfl rfl rfl ?_)
  refine wp_of e139 c139_6 (rw_iconst (pc' := 7) rfl ?_)
  refine wp_of e139 c139_7 (xp_I (pc' := 10) lf_6_81 w1685 g0 sh_25 (by decide) (by decide) ty_25_2 rfl rfl (by decide) (by decide) ⟨by decide, by decide⟩ rfl (fun H1688 e1689 w1690 => ?_))
  have f1691 := f1686.put' e1689 g0 rfl
  have k1692 : H1688 r0 2 = 0 := wq_u_s e1689
  refine wp_of e139 c139_10 (rw_aload_n (pc' := 11) (v := .ref r2) rfl rfl rfl ?_)
  refine wp_of e139 c139_11 (rw_aload_n (pc' := 12) (v := .ref r1) rfl rfl rfl ?_)
  have h1693 : CU T H1688 r1 e d n := (CU_fr w1685 g1 ((wfr.rf (l := [(25, 2)])).put' e1689 g0 rfl) rfl (CU_fr hW g1 ((wfr.rf (l := [(25, 1)])).put' e1684 g0 rfl) rfl hCU_r1))
  refine wp_of e139 c139_12 (xc_V (pc' := 15) (r := r2) (as := [.ref r1]) (st := []) (lm_6_28) rfl rfl (Nat.le_of_ble_eq_true rfl) w1690 g2 sh_6 (by decide) rfl (by decide) (u_87 (e := e) (d := d) (n := n) w1690 g2 g1 (by assumption) (by assumption) (by omega) h1693) (fun R1694 T1695 H1696 p1697 => ?_))
  obtain ⟨e1698, w1700, f1701, e1699, p1702⟩ := p1697
  subst e1698
  subst e1699
  have f1704 := f1691.tr f1701 rfl
  show wp _ _ 139 15 [(0, .ref r0), (1, .ref r1), (2, .ref r2)] [] _ H1696 _
  refine wp_of e139 c139_15 (rw_iconst (pc' := 16) rfl ?_)
  refine wp_of e139 c139_16 (rw_istore_n (pc' := 17) (z := 0) (L' := [(3, vI 0), (0, .ref r0), (1, .ref r1), (2, .ref r2)]) rfl rfl rfl ?_)
  have k2295 : H1696 r1 18 = H r1 18 := ((f1701 r1 18 _ g1 rfl).trans ((wq_u_t e1689 g0 g1 rfl 18).trans (wq_u_t e1684 g0 g1 rfl 18)))
  have k2296 : H1696 r0 1 = H1683 r0 1 := ((f1701 r0 1 _ g0 rfl).trans (wq_u_j e1689 rfl))
  have lp2290 : ∀ (n2291 : Nat) (v2293 : Int) (H2294 : wq_H), WT T H2294 → wfr [(25, 1), (8, 999), (10, 999), (26, 999), (9, 999), (7, 999), (11, 999)] T H1696 H2294 → (0 ≤ v2293 ∧ v2293 ≤ 5000) → WRc T H2294 r2 d (xlot d v2293) → GF0 T H2294 r0 (xcn (xnq d) (v2293).toNat) (xgf e d (xlots d).toNat) → (v2293 ≤ xlots d) → (H2294 r0 1 = xcn (xnq d) (v2293).toNat) → (5000 - v2293).toNat = n2291 → wp kt 3 139 17 [(3, vI v2293), (0, .ref r0), (1, .ref r1), (2, .ref r2)] [] T H2294 (uq_139 r0 r1 r2 e d n T H) := by
    intro n2291
    induction n2291 using Nat.strongRecOn with
    | _ n2291 ih2292 =>
      intro v2293 H2294 w2297 f2298 b2299 h2301 h2302 x2303 x2304 m2300
      have f2305 := f1704.tr f2298 rfl
      have k2306 : H2294 r1 18 = H1696 r1 18 := (f2298 r1 18 _ g1 rfl)
      refine wp_of e139 c139_17 (rw_iload_n (pc' := 18) (z := v2293) rfl rfl ?_)
      refine wp_of e139 c139_18 (rw_i2l (pc' := 19) rfl ⟨Int.le_trans (by decide) b2299.1, Int.le_trans b2299.2 (by decide)⟩ ?_)
      refine wp_of e139 c139_19 (rw_aload_n (pc' := 20) (v := .ref r1) rfl rfl rfl ?_)
      refine wp_of e139 c139_20 (xg_L (pc' := 23) lf_6_34 w2297 g1 sh_27 (by decide) (by decide) ty_27_18 rfl rfl (fun b2307 b2308 => ?_))
      refine wp_of e139 c139_23 (rw_lcmp (pc' := 24) rfl ⟨Int.le_trans (by decide) b2299.1, Int.le_trans b2299.2 (by decide)⟩ ⟨b2307, b2308⟩ ?_)
      have b2309 := wq_cmp_b v2293 (H2294 r1 18)
      refine wp_of e139 c139_24 (rw_if_ge (p1 := 76) (p2 := 27) (by decide) rfl ⟨by omega, by omega⟩ (fun c2310 => ?_) (fun c2310 => ?_))
      · exact wp_return e139 c139_76 rfl ⟨rfl, w2297, f2305, rfl, ⟨by rw [show (xlots d).toNat = (v2293).toNat by omega]; assumption, DA_cg h2302 (by rw [show (xlots d).toNat = (v2293).toNat by omega]) rfl⟩⟩
      · refine wp_of e139 c139_27 (rw_iload_n (pc' := 28) (z := v2293) rfl rfl ?_)
        refine wp_of e139 c139_28 (rw_sipush (pc' := 31) (z := 5000) rfl (by decide) ?_)
        refine wp_of e139 c139_31 (rw_icmp_ge (p1 := 76) (p2 := 34) (by decide) rfl ⟨Int.le_trans (by decide) b2299.1, Int.le_trans b2299.2 (by decide)⟩ ⟨by decide, by decide⟩ (fun c2311 => ?_) (fun c2311 => ?_))
        · exact wp_return e139 c139_76 rfl ⟨rfl, w2297, f2305, rfl, ⟨by rw [show (xlots d).toNat = (v2293).toNat by omega]; assumption, DA_cg h2302 (by rw [show (xlots d).toNat = (v2293).toNat by omega]) rfl⟩⟩
        · have h2312 : WR T H2294 r2 d (xlot d v2293) := WRc_at h2301 (by omega)
          have _cv : (((v2293).toNat : Nat) : Int) = v2293 := by omega
          have _xs := xcn_s (f := xnq d) (i := v2293) (by omega)
          refine wp_of e139 c139_34 (rw_aload_n (pc' := 35) (v := .ref r2) rfl rfl rfl ?_)
          refine wp_of e139 c139_35 (xc_V (pc' := 38) (r := r2) (as := []) (st := []) (lm_6_47) rfl rfl (Nat.le_of_ble_eq_true rfl) w2297 g2 sh_6 (by decide) rfl (by decide) (u_80 (d := d) (g := ((xlot d v2293))) w2297 g2 (by assumption) h2312) (fun R2313 T2314 H2315 p2316 => ?_))
          obtain ⟨e2317, e2319, z2320, e2318, b2321, p2322⟩ := p2316
          subst e2317
          subst e2318
          subst e2319
          rcases p2322 with ⟨a2323, a2324⟩ | ⟨a2325, a2326⟩
          · show wp _ _ 139 38 [(3, vI v2293), (0, .ref r0), (1, .ref r1), (2, .ref r2)] [vI z2320] _ H2294 _
            refine wp_of e139 c139_38 (rw_if_ne (p1 := 65) (p2 := 41) (by decide) rfl ⟨Int.le_trans (by decide) b2321.1, Int.le_trans b2321.2 (by decide)⟩ (fun c2327 => ?_) (fun c2327 => ?_))
            · refine wp_of e139 c139_65 (rw_aload_n (pc' := 66) (v := .ref r2) rfl rfl rfl ?_)
              refine wp_of e139 c139_66 (rw_aload_n (pc' := 67) (v := .ref r1) rfl rfl rfl ?_)
              have h2328 : CU T H2294 r1 e d n := (CU_fr w1700 g1 f2298 rfl (CU_fr w1690 g1 f1701 rfl h1693))
              refine wp_of e139 c139_67 (xc_V (pc' := 70) (r := r2) (as := [.ref r1]) (st := []) (lm_6_61) rfl rfl (Nat.le_of_ble_eq_true rfl) w2297 g2 sh_6 (by decide) rfl (by decide) (u_91 (e := e) (d := d) (n := n) (a := v2293) w2297 g2 g1 (by assumption) (by assumption) (by omega) (by omega) (by omega) h2328 h2312) (fun R2329 T2330 H2331 p2332 => ?_))
              obtain ⟨e2333, w2335, f2336, e2334, p2337⟩ := p2332
              subst e2333
              subst e2334
              have f2339 := f2305.tr f2336 rfl
              have f2340 := f2298.tr f2336 rfl
              show wp _ _ 139 70 [(3, vI v2293), (0, .ref r0), (1, .ref r1), (2, .ref r2)] [] _ H2331 _
              have _hp : ¬ xnq d (v2293).toNat > 0 := fun q => by
                have h1 := xnq_i.mp q
                unfold XNQ at h1
                rw [_cv] at h1
                omega
              rw [if_neg _hp] at _xs
              have h2341 : WRc T H2331 r2 d (xlot d (v2293 + 1)) := Or.inr p2337
              have h2342 : GF0 T H2331 r0 (xcn (xnq d) (v2293).toNat) (xgf e d (xlots d).toNat) := (GF0_fr w2297 g0 f2336 rfl h2302)
              have h2343 : GF0 T H2331 r0 (xcn (xnq d) (v2293 + 1).toNat) (xgf e d (xlots d).toNat) := DA_cg h2342 (by omega) rfl
              refine wp_of e139 c139_70 (rw_iinc (pc' := 73) (z := v2293) (L' := [(3, vI (v2293 + 1)), (0, .ref r0), (1, .ref r1), (2, .ref r2)]) rfl rfl rfl rfl ?_)
              refine wp_of e139 c139_73 (rw_goto (p1 := 17) (by decide) ?_)
              have k2344 : H2331 r1 18 = H2294 r1 18 := (f2336 r1 18 _ g1 rfl)
              have k2345 : H2331 r0 1 = H2294 r0 1 := (f2336 r0 1 _ g0 rfl)
              exact wp_lc (ks := [3, 0, 1, 2]) (wl_c rfl (wl_c rfl (wl_c rfl (wl_c rfl wl_n)))) rfl (by decide) (ih2292 _ (by omega) (v2293 + 1) H2331 w2335 f2340 ⟨by omega, by omega⟩ h2341 h2343 (by omega) (by omega) rfl)
            · exfalso
              omega
          · show wp _ _ 139 38 [(3, vI v2293), (0, .ref r0), (1, .ref r1), (2, .ref r2)] [vI z2320] _ H2294 _
            refine wp_of e139 c139_38 (rw_if_ne (p1 := 65) (p2 := 41) (by decide) rfl ⟨Int.le_trans (by decide) b2321.1, Int.le_trans b2321.2 (by decide)⟩ (fun c2346 => ?_) (fun c2346 => ?_))
            · exfalso
              omega
            · refine wp_of e139 c139_41 (rw_aload_n (pc' := 42) (v := .ref r0) rfl rfl rfl ?_)
              refine wp_of e139 c139_42 (xg_R (pc' := 45) lf_6_9 w2297 g0 sh_25 (by decide) (by decide) ty_25_0 rfl rfl (fun r2347 q2348 g2349 => ?_))
              refine wp_of e139 c139_45 (rw_aload_n (pc' := 46) (v := .ref r0) rfl rfl rfl ?_)
              refine wp_of e139 c139_46 (xg_I (pc' := 49) lf_6_68 w2297 g0 sh_25 (by decide) (by decide) ty_25_1 rfl rfl (fun b2350 b2351 => ?_))
              refine wp_of e139 c139_49 (rw_aload_n (pc' := 50) (v := .ref r1) rfl rfl rfl ?_)
              refine wp_of e139 c139_50 (rw_aload_n (pc' := 51) (v := .ref r2) rfl rfl rfl ?_)
              have k2352 : H2294 r1 16 = H r1 16 := ((f2298 r1 16 _ g1 rfl).trans ((f1701 r1 16 _ g1 rfl).trans ((wq_u_t e1689 g0 g1 rfl 16).trans (wq_u_t e1684 g0 g1 rfl 16))))
              have h2353 : CU T H2294 r1 e d n := (CU_fr w1700 g1 f2298 rfl (CU_fr w1690 g1 f1701 rfl h1693))
              refine wp_of e139 c139_51 (xc_S (pc' := 54) (as := [.ref r1, .ref r2]) (st := [vI (H2294 r0 1), .ref r2347]) (lm_6_84) rfl rfl (Nat.le_of_ble_eq_true rfl) rfl (by decide) (u_140 (e := e) (d := d) (n := n) (g := ((xlot d v2293))) w2297 g1 g2 (by assumption) (by assumption) (by omega) (by omega) h2353 h2312) (fun R2354 T2355 H2356 p2357 => ?_))
              obtain ⟨e2358, e2360, z2361, e2359, b2362, p2363⟩ := p2357
              subst e2358
              subst e2359
              subst e2360
              show wp _ _ 139 54 [(3, vI v2293), (0, .ref r0), (1, .ref r1), (2, .ref r2)] [vL z2361, vI (H2294 r0 1), .ref r2347] _ H2294 _
              have _nb9 := xcn_b (f := xnq d) (v2293).toNat
              have _hp : xnq d (v2293).toNat > 0 := xnq_i.mpr (by
                unfold XNQ
                rw [_cv]
                assumption)
              rw [if_pos _hp] at _xs
              have _hi : xcn (xnq d) (v2293).toNat = (((H2294 r0 1).toNat : Nat) : Int) := by omega
              have _fl : z2361 = xgf e d (xlots d).toNat (H2294 r0 1).toNat := by
                unfold xgf
                rw [xith_e _hp _hi (xlots d).toNat (by omega), _cv]
                assumption
              refine wp_of e139 c139_54 (xs_L (pc' := 55) w2297 g2349 (by decide) sh_26 (by decide) (ty_26 _) (b2362.1) (b2362.2) ⟨b2362.1, b2362.2⟩ (b2350) (by omega) rfl (fun H2365 e2366 w2367 => ?_))
              have f2368 := f2305.put' e2366 g2349 rfl
              have f2369 := f2298.put' e2366 g2349 rfl
              have h2370 : GF0 T H2365 r0 (xcn (xnq d) (v2293).toNat + 1) (xgf e d (xlots d).toNat) := DAo_put h2302 q2348 g0 g2349 (by decide) e2366 (k := ((H2294 r0 1).toNat)) (by omega) rfl _fl.symm (fun _ _ => rfl)
              refine wp_of e139 c139_55 (rw_aload_n (pc' := 56) (v := .ref r0) rfl rfl rfl ?_)
              refine wp_of e139 c139_56 (rw_dup (pc' := 57) rfl rfl ?_)
              have k2371 : H2365 r0 1 = H2294 r0 1 := (wq_u_t e2366 g2349 g0 rfl 1)
              refine wp_of e139 c139_57 (xg_I (pc' := 60) lf_6_68 w2367 g0 sh_25 (by decide) (by decide) ty_25_1 rfl rfl (fun b2372 b2373 => ?_))
              refine wp_of e139 c139_60 (rw_iconst (pc' := 61) rfl ?_)
              refine wp_of e139 c139_61 (rw_iadd (pc' := 62) rfl ?_)
              refine wp_of e139 c139_62 (xp_I (pc' := 65) lf_6_68 w2367 g0 sh_25 (by decide) (by decide) ty_25_1 rfl rfl (by omega) (by omega) ⟨by omega, by omega⟩ rfl (fun H2374 e2375 w2376 => ?_))
              have f2377 := f2368.put' e2375 g0 rfl
              have f2378 := f2369.put' e2375 g0 rfl
              have k2379 : H2374 r0 1 = (H2365 r0 1) + 1 := wq_u_s e2375
              refine wp_of e139 c139_65 (rw_aload_n (pc' := 66) (v := .ref r2) rfl rfl rfl ?_)
              refine wp_of e139 c139_66 (rw_aload_n (pc' := 67) (v := .ref r1) rfl rfl rfl ?_)
              have h2380 : CU T H2374 r1 e d n := (CU_fr w2367 g1 ((wfr.rf (l := [(25, 1)])).put' e2375 g0 rfl) rfl (CU_fr w2297 g1 ((wfr.rf (l := [(26, 999)])).put' e2366 g2349 rfl) rfl h2353))
              have h2381 : WR T H2374 r2 d (xlot d v2293) := (WR_fr w2367 g2 ((wfr.rf (l := [(25, 1)])).put' e2375 g0 rfl) rfl (WR_fr w2297 g2 ((wfr.rf (l := [(26, 999)])).put' e2366 g2349 rfl) rfl h2312))
              refine wp_of e139 c139_67 (xc_V (pc' := 70) (r := r2) (as := [.ref r1]) (st := []) (lm_6_61) rfl rfl (Nat.le_of_ble_eq_true rfl) w2376 g2 sh_6 (by decide) rfl (by decide) (u_91 (e := e) (d := d) (n := n) (a := v2293) w2376 g2 g1 (by assumption) (by assumption) (by omega) (by omega) (by omega) h2380 h2381) (fun R2382 T2383 H2384 p2385 => ?_))
              obtain ⟨e2386, w2388, f2389, e2387, p2390⟩ := p2385
              subst e2386
              subst e2387
              have f2392 := f2377.tr f2389 rfl
              have f2393 := f2378.tr f2389 rfl
              show wp _ _ 139 70 [(3, vI v2293), (0, .ref r0), (1, .ref r1), (2, .ref r2)] [] _ H2384 _
              have h2394 : WRc T H2384 r2 d (xlot d (v2293 + 1)) := Or.inr p2390
              have h2395 : GF0 T H2384 r0 (xcn (xnq d) (v2293).toNat + 1) (xgf e d (xlots d).toNat) := (GF0_fr w2376 g0 f2389 rfl (GF0_fr w2367 g0 ((wfr.rf (l := [(25, 1)])).put' e2375 g0 rfl) rfl h2370))
              have h2396 : GF0 T H2384 r0 (xcn (xnq d) (v2293 + 1).toNat) (xgf e d (xlots d).toNat) := DA_cg h2395 (by omega) rfl
              refine wp_of e139 c139_70 (rw_iinc (pc' := 73) (z := v2293) (L' := [(3, vI (v2293 + 1)), (0, .ref r0), (1, .ref r1), (2, .ref r2)]) rfl rfl rfl rfl ?_)
              refine wp_of e139 c139_73 (rw_goto (p1 := 17) (by decide) ?_)
              have k2397 : H2384 r1 18 = H2294 r1 18 := ((f2389 r1 18 _ g1 rfl).trans ((wq_u_t e2375 g0 g1 rfl 18).trans (wq_u_t e2366 g2349 g1 rfl 18)))
              have k2398 : H2384 r0 1 = H2374 r0 1 := (f2389 r0 1 _ g0 rfl)
              exact wp_lc (ks := [3, 0, 1, 2]) (wl_c rfl (wl_c rfl (wl_c rfl (wl_c rfl wl_n)))) rfl (by decide) (ih2292 _ (by omega) (v2293 + 1) H2384 w2388 f2393 ⟨by omega, by omega⟩ h2394 h2396 (by omega) (by omega) rfl)
  have h2399 : GF0 T H1696 r0 (xcn (xnq d) ((0 : Int)).toNat) (xgf e d (xlots d).toNat) := DAo_0 (w1700.ref g0 (n := 3) (p := 0) (q := 0) rfl (by decide) rfl) (Int.le_refl _)
  exact wp_lc (ks := [3, 0, 1, 2]) (wl_c rfl (wl_c rfl (wl_c rfl (wl_c rfl wl_n)))) rfl (by decide) (lp2290 _ 0 H1696 w1700 wfr.rf ⟨by decide, by decide⟩ p1702 h2399 (by omega) (by show H1696 r0 1 = (0 : Int); omega) rfl)
/-! StrikeAwake$Grounds.isLeft(LStrikeAwake$Parish;JI)Z  -/
abbrev uq_143 (r0 : Nat) (a1 : Int) (a2 : Int) (e : xD) (d : xD) (n : Int) (V : Nat → Int) (T : wq_T) (H : wq_H) : Option Value → wq_T → wq_H → Prop := fun r T' H' => T = T' ∧ H = H' ∧ ∃ z : Int, some (vI z) = r ∧ (0 ≤ z ∧ z ≤ 1) ∧ (((z = 1) ∧ (XLF V (d 0 2) a2)) ∨ ((z = 0) ∧ (¬ XLF V (d 0 2) a2)))
set_option maxHeartbeats 4000000 in
theorem u_143 {kt : Nat → Option mc_E} {T : wq_T} {H : wq_H} {r0 : Nat} {a1 : Int} {a2 : Int} {e : xD} {d : xD} {n : Int} {V : Nat → Int} (hW : WT T H) (g0 : T.2.2.2 r0 = some 27) (i1 : (-9223372036854775808) ≤ a1 ∧ a1 ≤ 9223372036854775807) (i2 : 0 ≤ a2 ∧ a2 ≤ 16777215) (p0 : ∀ i, i ≠ 13 → e i = d i) (p1 : XW d) (p2 : a1 = xfZ V 24) (p3 : ∀ h, 0 ≤ V h ∧ V h ≤ 2) (p4 : nbf 24 (a2).toNat ≤ 3) (hCU_r0 : CU T H r0 e d n) : wpc kt 2 143 [.ref r0, vL a1, vI a2] T H (uq_143 r0 a1 a2 e d n V T H) := by
  refine wp_enter e143 (Nat.le_of_ble_eq_true rfl) rfl ?_
  show wp _ _ 143 0 [(0, .ref r0), (1, vL a1), (3, vI a2)] [] _ H _
  have u1026 := CU_k hCU_r0
  have _k := CU_k hCU_r0
  have _xc := p1.2.1
  unfold XC at _xc
  have _d0 := p0 0 (by decide)
  have _e3 : e 0 3 = d 0 3 := by rw [_d0]
  have _e4 : e 0 4 = d 0 4 := by rw [_d0]
  have _e5 : e 0 5 = d 0 5 := by rw [_d0]
  have _e2 : e 0 2 = d 0 2 := by rw [_d0]
  have _o2 := hCU_r0.1.1.2.2.1
  refine wp_of e143 c143_0 (rw_lload_n (pc' := 1) (z := a1) rfl rfl ?_)
  refine wp_of e143 c143_1 (rw_l2i (pc' := 2) rfl ?_)
  obtain ⟨v1027, e1028⟩ : ∃ x : Int, x = wq_w a1 := ⟨_, rfl⟩
  rw [← e1028]
  have b1029 : -2147483648 ≤ v1027 ∧ v1027 ≤ 2147483647 := by
    rw [e1028]
    exact wI_w _
  have b1030 : (-2147483648 ≤ a1 ∧ a1 ≤ 2147483647) → v1027 = a1 := by
    rw [e1028]
    exact fun h => wq_w_id h
  refine wp_of e143 c143_2 (rw_iload_n (pc' := 3) (z := a2) rfl rfl ?_)
  refine wp_of e143 c143_3 (rw_iand (pc' := 4) rfl ?_)
  obtain ⟨v1031, e1032⟩ : ∃ x : Int, x = wq_and v1027 a2 := ⟨_, rfl⟩
  rw [← e1032]
  have b1033 : 0 ≤ v1031 ∧ v1031 ≤ a2 := by
    rw [e1032]
    exact wq_and_b _ (by omega) (by omega)
  have _d4 : v1031 = wq_and (XD V) a2 := by
    rw [e1032, e1028, p2]
    exact congrArg (fun q => wq_and q a2) xfZ_D
  refine wp_of e143 c143_4 (rw_istore (pc' := 6) (z := v1031) (L' := [(4, vI v1031), (0, .ref r0), (1, vL a1), (3, vI a2)]) rfl rfl rfl ?_)
  refine wp_of e143 c143_6 (rw_lload_n (pc' := 7) (z := a1) rfl rfl ?_)
  refine wp_of e143 c143_7 (rw_bipush (pc' := 9) (z := 32) rfl (by decide) ?_)
  refine wp_of e143 c143_9 (rw_lshr (pc' := 10) rfl ?_)
  obtain ⟨v1034, e1035⟩ : ∃ x : Int, x = wl_shr a1 32 := ⟨_, rfl⟩
  rw [← e1035]
  have b1036 : -9223372036854775808 ≤ v1034 ∧ v1034 ≤ 9223372036854775807 := by
    rw [e1035]
    exact wL_shr _ _
  refine wp_of e143 c143_10 (rw_l2i (pc' := 11) rfl ?_)
  obtain ⟨v1037, e1038⟩ : ∃ x : Int, x = wq_w v1034 := ⟨_, rfl⟩
  rw [← e1038]
  have b1039 : -2147483648 ≤ v1037 ∧ v1037 ≤ 2147483647 := by
    rw [e1038]
    exact wI_w _
  have b1040 : (-2147483648 ≤ v1034 ∧ v1034 ≤ 2147483647) → v1037 = v1034 := by
    rw [e1038]
    exact fun h => wq_w_id h
  refine wp_of e143 c143_11 (rw_iload_n (pc' := 12) (z := a2) rfl rfl ?_)
  refine wp_of e143 c143_12 (rw_iand (pc' := 13) rfl ?_)
  obtain ⟨v1041, e1042⟩ : ∃ x : Int, x = wq_and v1037 a2 := ⟨_, rfl⟩
  rw [← e1042]
  have b1043 : 0 ≤ v1041 ∧ v1041 ≤ a2 := by
    rw [e1042]
    exact wq_and_b _ (by omega) (by omega)
  have _d5 : v1041 = wq_and (XO V) a2 := by
    rw [e1042, e1038, e1035, p2]
    exact congrArg (fun q => wq_and q a2) xfZ_O
  have _n5 : nbf 24 (v1041).toNat ≤ 3 := by
    rw [_d5]
    exact nb_left XO_b ⟨by omega, by omega⟩ p4
  have _b5 : 0 ≤ v1041 ∧ v1041 ≤ 16777215 := by
    rw [_d5]
    have := wq_and_b (y := a2) (XO V) (by omega) (by omega)
    omega
  refine wp_of e143 c143_13 (rw_istore (pc' := 15) (z := v1041) (L' := [(5, vI v1041), (4, vI v1031), (0, .ref r0), (1, vL a1), (3, vI a2)]) rfl rfl rfl ?_)
  refine wp_of e143 c143_15 (rw_iload (pc' := 17) (z := v1031) rfl rfl ?_)
  refine wp_of e143 c143_17 (rw_if_ne (p1 := 36) (p2 := 20) (by decide) rfl ⟨by omega, by omega⟩ (fun c1044 => ?_) (fun c1044 => ?_))
  · refine wp_of e143 c143_36 (rw_iconst (pc' := 37) rfl ?_)
    have _i := XLF_i (V := V) (m := d 0 2) (X := a2) p3 ⟨by omega, by omega⟩
    rw [← _d4, ← _d5] at _i
    have _z : ¬ XLF V (d 0 2) a2 := fun k => by
      have := _i.mp k
      omega
    exact wp_zreturn e143 c143_37 rfl (by omega) ⟨rfl, rfl, 0, rfl, ⟨by decide, by decide⟩, (Or.inr ⟨by omega, _z⟩)⟩
  · refine wp_of e143 c143_20 (rw_iload (pc' := 22) (z := v1041) rfl rfl ?_)
    refine wp_of e143 c143_22 (xc_S (pc' := 25) (as := [vI v1041]) (st := []) (lm_6_108) rfl rfl (Nat.le_of_ble_eq_true rfl) rfl (by decide) (u_126  hW ⟨by omega, by omega⟩ (by assumption)) (fun R1045 T1046 H1047 p1048 => ?_))
    obtain ⟨e1049, e1051, z1052, e1050, b1053, p1054⟩ := p1048
    subst e1049
    subst e1050
    subst e1051
    show wp _ _ 143 25 [(5, vI v1041), (4, vI v1031), (0, .ref r0), (1, vL a1), (3, vI a2)] [vI z1052] _ H _
    refine wp_of e143 c143_25 (rw_aload_n (pc' := 26) (v := .ref r0) rfl rfl rfl ?_)
    refine wp_of e143 c143_26 (xg_I (pc' := 29) lf_6_113 hW g0 sh_27 (by decide) (by decide) ty_27_9 rfl rfl (fun b1056 b1057 => ?_))
    refine wp_of e143 c143_29 (rw_icmp_gt (p1 := 36) (p2 := 32) (by decide) rfl ⟨Int.le_trans (by decide) b1053.1, Int.le_trans b1053.2 (by decide)⟩ ⟨b1056, b1057⟩ (fun c1058 => ?_) (fun c1058 => ?_))
    · refine wp_of e143 c143_36 (rw_iconst (pc' := 37) rfl ?_)
      have _i := XLF_i (V := V) (m := d 0 2) (X := a2) p3 ⟨by omega, by omega⟩
      rw [← _d4, ← _d5] at _i
      have _z : ¬ XLF V (d 0 2) a2 := fun k => by
        have := _i.mp k
        omega
      exact wp_zreturn e143 c143_37 rfl (by omega) ⟨rfl, rfl, 0, rfl, ⟨by decide, by decide⟩, (Or.inr ⟨by omega, _z⟩)⟩
    · refine wp_of e143 c143_32 (rw_iconst (pc' := 33) rfl ?_)
      refine wp_of e143 c143_33 (rw_goto (p1 := 37) (by decide) ?_)
      have _i := XLF_i (V := V) (m := d 0 2) (X := a2) p3 ⟨by omega, by omega⟩
      rw [← _d4, ← _d5] at _i
      have _z : XLF V (d 0 2) a2 := _i.mpr ⟨by omega, by omega⟩
      exact wp_zreturn e143 c143_37 rfl (by omega) ⟨rfl, rfl, 1, rfl, ⟨by decide, by decide⟩, (Or.inl ⟨by omega, _z⟩)⟩
/-! StrikeAwake$Grounds.leavesNone(LStrikeAwake$Parish;I)Z  -/
abbrev uq_142 (r0 : Nat) (r1 : Nat) (a2 : Int) (e : xD) (d : xD) (n : Int) (T : wq_T) (H : wq_H) : Option Value → wq_T → wq_H → Prop := fun r T' H' => T = T' ∧ WT T H' ∧ wfr [(25, 2)] T H H' ∧ ∃ z : Int, some (vI z) = r ∧ (0 ≤ z ∧ z ≤ 1) ∧ (((z = 1) ∧ (XPV e d (xlots d).toNat a2)) ∨ ((z = 0) ∧ (¬ XPV e d (xlots d).toNat a2)))
set_option maxHeartbeats 4000000 in
theorem u_142 {kt : Nat → Option mc_E} {T : wq_T} {H : wq_H} {r0 : Nat} {r1 : Nat} {a2 : Int} {e : xD} {d : xD} {n : Int} (hW : WT T H) (g0 : T.2.2.2 r0 = some 25) (g1 : T.2.2.2 r1 = some 27) (i2 : 0 ≤ a2 ∧ a2 ≤ 16777215) (p0 : ∀ i, i ≠ 13 → e i = d i) (p1 : XW d) (p2 : e 0 3 = d 0 3) (p3 : n = xlots d) (p4 : e 0 0 = d 0 0) (p5 : H r0 1 = xcn (xnq d) (xlots d).toNat) (p6 : nbf 24 (a2).toNat ≤ 3) (hCU_r1 : CU T H r1 e d n) (hGF0_r0 : GF0 T H r0 (xcn (xnq d) (xlots d).toNat) (xgf e d (xlots d).toNat)) : wpc kt 3 142 [.ref r0, .ref r1, vI a2] T H (uq_142 r0 r1 a2 e d n T H) := by
  refine wp_enter e142 (Nat.le_of_ble_eq_true rfl) rfl ?_
  have f0 : wfr [(25, 2)] T H H := wfr.rf
  show wp _ _ 142 0 [(0, .ref r0), (1, .ref r1), (2, vI a2)] [] _ H _
  have u1478 := CU_k hCU_r1
  have b1479 : 0 ≤ H r0 1 ∧ H r0 1 ≤ 5000 := hW.box g0 (n := 3) rfl (by decide) rfl
  have _k := CU_k hCU_r1
  have _xc := p1.2.1
  unfold XC at _xc
  have _d0 := p0 0 (by decide)
  have _e3 : e 0 3 = d 0 3 := by rw [_d0]
  have _e4 : e 0 4 = d 0 4 := by rw [_d0]
  have _e5 : e 0 5 = d 0 5 := by rw [_d0]
  have _nb := xcn_b (f := xnq d) (xlots d).toNat
  refine wp_of e142 c142_0 (rw_aload_n (pc' := 1) (v := .ref r0) rfl rfl rfl ?_)
  refine wp_of e142 c142_1 (xg_I (pc' := 4) lf_6_81 hW g0 sh_25 (by decide) (by decide) ty_25_2 rfl rfl (fun b1480 b1481 => ?_))
  refine wp_of e142 c142_4 (rw_aload_n (pc' := 5) (v := .ref r0) rfl rfl rfl ?_)
  refine wp_of e142 c142_5 (xg_I (pc' := 8) lf_6_68 hW g0 sh_25 (by decide) (by decide) ty_25_1 rfl rfl (fun b1482 b1483 => ?_))
  refine wp_of e142 c142_8 (rw_icmp_ge (p1 := 30) (p2 := 11) (by decide) rfl ⟨Int.le_trans (by decide) b1480, Int.le_trans b1481 (by decide)⟩ ⟨Int.le_trans (by decide) b1482, Int.le_trans b1483 (by decide)⟩ (fun c1484 => ?_) (fun c1484 => ?_))
  · refine wp_of e142 c142_30 (rw_iconst (pc' := 31) rfl ?_)
    refine wp_of e142 c142_31 (rw_istore_n (pc' := 32) (z := 0) (L' := [(3, vI 0), (0, .ref r0), (1, .ref r1), (2, vI a2)]) rfl rfl rfl ?_)
    have lp1685 : ∀ (n1686 : Nat) (v1688 : Int), (0 ≤ v1688 ∧ v1688 ≤ 4999) → (v1688 ≤ H r0 1) → (∀ i : Nat, (i : Int) < v1688 → ¬ XLF (xvy e d (xlot d (((xith (xnq d) ((i : Nat) : Int) (xlots d).toNat) : Nat) : Int))) (d 0 2) a2) → (4999 - v1688).toNat = n1686 → wp kt 2 142 32 [(3, vI v1688), (0, .ref r0), (1, .ref r1), (2, vI a2)] [] T H (uq_142 r0 r1 a2 e d n T H) := by
      intro n1686
      induction n1686 using Nat.strongRecOn with
      | _ n1686 ih1687 =>
        intro v1688 b1691 x1693 x1694 m1692
        refine wp_of e142 c142_32 (rw_iload_n (pc' := 33) (z := v1688) rfl rfl ?_)
        refine wp_of e142 c142_33 (rw_aload_n (pc' := 34) (v := .ref r0) rfl rfl rfl ?_)
        refine wp_of e142 c142_34 (xg_I (pc' := 37) lf_6_68 hW g0 sh_25 (by decide) (by decide) ty_25_1 rfl rfl (fun b1695 b1696 => ?_))
        refine wp_of e142 c142_37 (rw_icmp_ge (p1 := 67) (p2 := 40) (by decide) rfl ⟨Int.le_trans (by decide) b1691.1, Int.le_trans b1691.2 (by decide)⟩ ⟨Int.le_trans (by decide) b1695, Int.le_trans b1696 (by decide)⟩ (fun c1697 => ?_) (fun c1697 => ?_))
        · have _z : XPV e d (xlots d).toNat a2 := XPV_a (c := v1688) (by omega) (by assumption)
          refine wp_of e142 c142_67 (rw_iconst (pc' := 68) rfl ?_)
          exact wp_zreturn e142 c142_68 rfl (by omega) ⟨rfl, hW, f0, 1, rfl, ⟨by decide, by decide⟩, (Or.inl ⟨by omega, _z⟩)⟩
        · refine wp_of e142 c142_40 (rw_aload_n (pc' := 41) (v := .ref r1) rfl rfl rfl ?_)
          refine wp_of e142 c142_41 (rw_aload_n (pc' := 42) (v := .ref r0) rfl rfl rfl ?_)
          refine wp_of e142 c142_42 (xg_R (pc' := 45) lf_6_9 hW g0 sh_25 (by decide) (by decide) ty_25_0 rfl rfl (fun r1698 q1699 g1700 => ?_))
          refine wp_of e142 c142_45 (rw_iload_n (pc' := 46) (z := v1688) rfl rfl ?_)
          refine wp_of e142 c142_46 (xa_L (pc' := 47) hW g1700 sh_26 (by decide) (ty_26 _) (b1691.1) (Int.lt_of_le_of_lt b1691.2 (by decide)) rfl (fun b1701 b1702 => ?_))
          have := DA_at hGF0_r0 q1699 (k := (v1688.toNat)) (by omega)
          refine wp_of e142 c142_47 (rw_iload_n (pc' := 48) (z := a2) rfl rfl ?_)
          have _xf : H r1698 (v1688.toNat) = xfZ (xvy e d (xlot d (((xith (xnq d) (((v1688).toNat : Nat) : Int) (xlots d).toNat) : Nat) : Int))) 24 := by
            rw [(by assumption : H r1698 (v1688.toNat) = xgf e d (xlots d).toNat ((v1688).toNat))]
            rfl
          refine wp_of e142 c142_48 (xc_S (pc' := 51) (as := [.ref r1, vL (H r1698 (v1688.toNat)), vI a2]) (st := []) (lm_6_104) rfl rfl (Nat.le_of_ble_eq_true rfl) rfl (by decide) (u_143 (e := e) (d := d) (n := n) (V := ((xvy e d (xlot d (((xith (xnq d) (((v1688).toNat : Nat) : Int) (xlots d).toNat) : Nat) : Int))))) hW g1 ⟨b1701, b1702⟩ ⟨i2.1, i2.2⟩ (by assumption) (by assumption) (by assumption) (fun h => xvy_b) (by assumption) hCU_r1) (fun R1703 T1704 H1705 p1706 => ?_))
          obtain ⟨e1707, e1709, z1710, e1708, b1711, p1712⟩ := p1706
          subst e1707
          subst e1708
          subst e1709
          rcases p1712 with ⟨a1713, a1714⟩ | ⟨a1715, a1716⟩
          · show wp _ _ 142 51 [(3, vI v1688), (0, .ref r0), (1, .ref r1), (2, vI a2)] [vI z1710] _ H _
            refine wp_of e142 c142_51 (rw_if_eq (p1 := 61) (p2 := 54) (by decide) rfl ⟨Int.le_trans (by decide) b1711.1, Int.le_trans b1711.2 (by decide)⟩ (fun c1717 => ?_) (fun c1717 => ?_))
            · exfalso
              omega
            · have _z : ¬ XPV e d (xlots d).toNat a2 := XPV_f (i := (v1688).toNat) (by omega) (by assumption)
              refine wp_of e142 c142_54 (rw_aload_n (pc' := 55) (v := .ref r0) rfl rfl rfl ?_)
              refine wp_of e142 c142_55 (rw_iload_n (pc' := 56) (z := v1688) rfl rfl ?_)
              refine wp_of e142 c142_56 (xp_I (pc' := 59) lf_6_81 hW g0 sh_25 (by decide) (by decide) ty_25_2 rfl rfl (b1691.1) (b1691.2) ⟨Int.le_trans (by decide) b1691.1, Int.le_trans b1691.2 (by decide)⟩ rfl (fun H1718 e1719 w1720 => ?_))
              have f1721 := f0.put' e1719 g0 rfl
              have k1722 : H1718 r0 2 = v1688 := wq_u_s e1719
              refine wp_of e142 c142_59 (rw_iconst (pc' := 60) rfl ?_)
              exact wp_zreturn e142 c142_60 rfl (by omega) ⟨rfl, w1720, f1721, 0, rfl, ⟨by decide, by decide⟩, (Or.inr ⟨by omega, _z⟩)⟩
          · show wp _ _ 142 51 [(3, vI v1688), (0, .ref r0), (1, .ref r1), (2, vI a2)] [vI z1710] _ H _
            refine wp_of e142 c142_51 (rw_if_eq (p1 := 61) (p2 := 54) (by decide) rfl ⟨Int.le_trans (by decide) b1711.1, Int.le_trans b1711.2 (by decide)⟩ (fun c1723 => ?_) (fun c1723 => ?_))
            · have _q : ∀ i : Nat, (i : Int) < v1688 + 1 → ¬ XLF (xvy e d (xlot d (((xith (xnq d) ((i : Nat) : Int) (xlots d).toNat) : Nat) : Int))) (d 0 2) a2 := fun i hi => by
                by_cases c0 : (i : Int) < v1688
                · exact (by assumption : ∀ i : Nat, (i : Int) < v1688 → ¬ XLF (xvy e d (xlot d (((xith (xnq d) ((i : Nat) : Int) (xlots d).toNat) : Nat) : Int))) (d 0 2) a2) i c0
                · rw [show i = (v1688).toNat by omega]
                  assumption
              refine wp_of e142 c142_61 (rw_iinc (pc' := 64) (z := v1688) (L' := [(3, vI (v1688 + 1)), (0, .ref r0), (1, .ref r1), (2, vI a2)]) rfl rfl rfl rfl ?_)
              refine wp_of e142 c142_64 (rw_goto (p1 := 32) (by decide) ?_)
              exact wp_lc (ks := [3, 0, 1, 2]) (wl_c rfl (wl_c rfl (wl_c rfl (wl_c rfl wl_n)))) rfl (by decide) (ih1687 _ (by omega) (v1688 + 1) ⟨by omega, by omega⟩ (by omega) (_q) rfl)
            · exfalso
              omega
    exact wp_lc (ks := [3, 0, 1, 2]) (wl_c rfl (wl_c rfl (wl_c rfl (wl_c rfl wl_n)))) rfl (by decide) (lp1685 _ 0 ⟨by decide, by decide⟩ (by omega) (fun i hi => by omega) rfl)
  · refine wp_of e142 c142_11 (rw_aload_n (pc' := 12) (v := .ref r1) rfl rfl rfl ?_)
    refine wp_of e142 c142_12 (rw_aload_n (pc' := 13) (v := .ref r0) rfl rfl rfl ?_)
    refine wp_of e142 c142_13 (xg_R (pc' := 16) lf_6_9 hW g0 sh_25 (by decide) (by decide) ty_25_0 rfl rfl (fun r1724 q1725 g1726 => ?_))
    refine wp_of e142 c142_16 (rw_aload_n (pc' := 17) (v := .ref r0) rfl rfl rfl ?_)
    refine wp_of e142 c142_17 (xg_I (pc' := 20) lf_6_81 hW g0 sh_25 (by decide) (by decide) ty_25_2 rfl rfl (fun b1727 b1728 => ?_))
    refine wp_of e142 c142_20 (xa_L (pc' := 21) hW g1726 sh_26 (by decide) (ty_26 _) (b1727) (Int.lt_of_le_of_lt b1728 (by decide)) rfl (fun b1729 b1730 => ?_))
    have := DA_at hGF0_r0 q1725 (k := ((H r0 2).toNat)) (by omega)
    refine wp_of e142 c142_21 (rw_iload_n (pc' := 22) (z := a2) rfl rfl ?_)
    have _xf : H r1724 ((H r0 2).toNat) = xfZ (xvy e d (xlot d (((xith (xnq d) (((H r0 2).toNat : Nat) : Int) (xlots d).toNat) : Nat) : Int))) 24 := by
      rw [(by assumption : H r1724 ((H r0 2).toNat) = xgf e d (xlots d).toNat ((H r0 2).toNat))]
      rfl
    refine wp_of e142 c142_22 (xc_S (pc' := 25) (as := [.ref r1, vL (H r1724 ((H r0 2).toNat)), vI a2]) (st := []) (lm_6_104) rfl rfl (Nat.le_of_ble_eq_true rfl) rfl (by decide) (u_143 (e := e) (d := d) (n := n) (V := ((xvy e d (xlot d (((xith (xnq d) (((H r0 2).toNat : Nat) : Int) (xlots d).toNat) : Nat) : Int))))) hW g1 ⟨b1729, b1730⟩ ⟨i2.1, i2.2⟩ (by assumption) (by assumption) (by assumption) (fun h => xvy_b) (by assumption) hCU_r1) (fun R1731 T1732 H1733 p1734 => ?_))
    obtain ⟨e1735, e1737, z1738, e1736, b1739, p1740⟩ := p1734
    subst e1735
    subst e1736
    subst e1737
    rcases p1740 with ⟨a1741, a1742⟩ | ⟨a1743, a1744⟩
    · show wp _ _ 142 25 [(0, .ref r0), (1, .ref r1), (2, vI a2)] [vI z1738] _ H _
      refine wp_of e142 c142_25 (rw_if_eq (p1 := 30) (p2 := 28) (by decide) rfl ⟨Int.le_trans (by decide) b1739.1, Int.le_trans b1739.2 (by decide)⟩ (fun c1745 => ?_) (fun c1745 => ?_))
      · exfalso
        omega
      · have _z : ¬ XPV e d (xlots d).toNat a2 := XPV_f (i := (H r0 2).toNat) (by omega) (by assumption)
        refine wp_of e142 c142_28 (rw_iconst (pc' := 29) rfl ?_)
        exact wp_zreturn e142 c142_29 rfl (by omega) ⟨rfl, hW, f0, 0, rfl, ⟨by decide, by decide⟩, (Or.inr ⟨by omega, _z⟩)⟩
    · show wp _ _ 142 25 [(0, .ref r0), (1, .ref r1), (2, vI a2)] [vI z1738] _ H _
      refine wp_of e142 c142_25 (rw_if_eq (p1 := 30) (p2 := 28) (by decide) rfl ⟨Int.le_trans (by decide) b1739.1, Int.le_trans b1739.2 (by decide)⟩ (fun c1746 => ?_) (fun c1746 => ?_))
      · refine wp_of e142 c142_30 (rw_iconst (pc' := 31) rfl ?_)
        refine wp_of e142 c142_31 (rw_istore_n (pc' := 32) (z := 0) (L' := [(3, vI 0), (0, .ref r0), (1, .ref r1), (2, vI a2)]) rfl rfl rfl ?_)
        have lp1939 : ∀ (n1940 : Nat) (v1942 : Int), (0 ≤ v1942 ∧ v1942 ≤ 5000) → (v1942 ≤ H r0 1) → (∀ i : Nat, (i : Int) < v1942 → ¬ XLF (xvy e d (xlot d (((xith (xnq d) ((i : Nat) : Int) (xlots d).toNat) : Nat) : Int))) (d 0 2) a2) → (5000 - v1942).toNat = n1940 → wp kt 2 142 32 [(3, vI v1942), (0, .ref r0), (1, .ref r1), (2, vI a2)] [] T H (uq_142 r0 r1 a2 e d n T H) := by
          intro n1940
          induction n1940 using Nat.strongRecOn with
          | _ n1940 ih1941 =>
            intro v1942 b1945 x1947 x1948 m1946
            refine wp_of e142 c142_32 (rw_iload_n (pc' := 33) (z := v1942) rfl rfl ?_)
            refine wp_of e142 c142_33 (rw_aload_n (pc' := 34) (v := .ref r0) rfl rfl rfl ?_)
            refine wp_of e142 c142_34 (xg_I (pc' := 37) lf_6_68 hW g0 sh_25 (by decide) (by decide) ty_25_1 rfl rfl (fun b1949 b1950 => ?_))
            refine wp_of e142 c142_37 (rw_icmp_ge (p1 := 67) (p2 := 40) (by decide) rfl ⟨Int.le_trans (by decide) b1945.1, Int.le_trans b1945.2 (by decide)⟩ ⟨Int.le_trans (by decide) b1949, Int.le_trans b1950 (by decide)⟩ (fun c1951 => ?_) (fun c1951 => ?_))
            · have _z : XPV e d (xlots d).toNat a2 := XPV_a (c := v1942) (by omega) (by assumption)
              refine wp_of e142 c142_67 (rw_iconst (pc' := 68) rfl ?_)
              exact wp_zreturn e142 c142_68 rfl (by omega) ⟨rfl, hW, f0, 1, rfl, ⟨by decide, by decide⟩, (Or.inl ⟨by omega, _z⟩)⟩
            · refine wp_of e142 c142_40 (rw_aload_n (pc' := 41) (v := .ref r1) rfl rfl rfl ?_)
              refine wp_of e142 c142_41 (rw_aload_n (pc' := 42) (v := .ref r0) rfl rfl rfl ?_)
              refine wp_of e142 c142_42 (xg_K (pc' := 45) lf_6_9 hW g0 sh_25 (by decide) (by decide) rfl q1725 rfl ?_)
              refine wp_of e142 c142_45 (rw_iload_n (pc' := 46) (z := v1942) rfl rfl ?_)
              refine wp_of e142 c142_46 (xa_L (pc' := 47) hW g1726 sh_26 (by decide) (ty_26 _) (b1945.1) (by omega) rfl (fun b1952 b1953 => ?_))
              have := DA_at hGF0_r0 q1725 (k := (v1942.toNat)) (by omega)
              refine wp_of e142 c142_47 (rw_iload_n (pc' := 48) (z := a2) rfl rfl ?_)
              have _xf : H r1724 (v1942.toNat) = xfZ (xvy e d (xlot d (((xith (xnq d) (((v1942).toNat : Nat) : Int) (xlots d).toNat) : Nat) : Int))) 24 := by
                rw [(by assumption : H r1724 (v1942.toNat) = xgf e d (xlots d).toNat ((v1942).toNat))]
                rfl
              refine wp_of e142 c142_48 (xc_S (pc' := 51) (as := [.ref r1, vL (H r1724 (v1942.toNat)), vI a2]) (st := []) (lm_6_104) rfl rfl (Nat.le_of_ble_eq_true rfl) rfl (by decide) (u_143 (e := e) (d := d) (n := n) (V := ((xvy e d (xlot d (((xith (xnq d) (((v1942).toNat : Nat) : Int) (xlots d).toNat) : Nat) : Int))))) hW g1 ⟨b1952, b1953⟩ ⟨i2.1, i2.2⟩ (by assumption) (by assumption) (by assumption) (fun h => xvy_b) (by assumption) hCU_r1) (fun R1954 T1955 H1956 p1957 => ?_))
              obtain ⟨e1958, e1960, z1961, e1959, b1962, p1963⟩ := p1957
              subst e1958
              subst e1959
              subst e1960
              rcases p1963 with ⟨a1964, a1965⟩ | ⟨a1966, a1967⟩
              · show wp _ _ 142 51 [(3, vI v1942), (0, .ref r0), (1, .ref r1), (2, vI a2)] [vI z1961] _ H _
                refine wp_of e142 c142_51 (rw_if_eq (p1 := 61) (p2 := 54) (by decide) rfl ⟨Int.le_trans (by decide) b1962.1, Int.le_trans b1962.2 (by decide)⟩ (fun c1968 => ?_) (fun c1968 => ?_))
                · exfalso
                  omega
                · have _z : ¬ XPV e d (xlots d).toNat a2 := XPV_f (i := (v1942).toNat) (by omega) (by assumption)
                  refine wp_of e142 c142_54 (rw_aload_n (pc' := 55) (v := .ref r0) rfl rfl rfl ?_)
                  refine wp_of e142 c142_55 (rw_iload_n (pc' := 56) (z := v1942) rfl rfl ?_)
                  refine wp_of e142 c142_56 (xp_I (pc' := 59) lf_6_81 hW g0 sh_25 (by decide) (by decide) ty_25_2 rfl rfl (b1945.1) (by omega) ⟨Int.le_trans (by decide) b1945.1, Int.le_trans b1945.2 (by decide)⟩ rfl (fun H1969 e1970 w1971 => ?_))
                  have f1972 := f0.put' e1970 g0 rfl
                  have k1973 : H1969 r0 2 = v1942 := wq_u_s e1970
                  refine wp_of e142 c142_59 (rw_iconst (pc' := 60) rfl ?_)
                  exact wp_zreturn e142 c142_60 rfl (by omega) ⟨rfl, w1971, f1972, 0, rfl, ⟨by decide, by decide⟩, (Or.inr ⟨by omega, _z⟩)⟩
              · show wp _ _ 142 51 [(3, vI v1942), (0, .ref r0), (1, .ref r1), (2, vI a2)] [vI z1961] _ H _
                refine wp_of e142 c142_51 (rw_if_eq (p1 := 61) (p2 := 54) (by decide) rfl ⟨Int.le_trans (by decide) b1962.1, Int.le_trans b1962.2 (by decide)⟩ (fun c1974 => ?_) (fun c1974 => ?_))
                · have _q : ∀ i : Nat, (i : Int) < v1942 + 1 → ¬ XLF (xvy e d (xlot d (((xith (xnq d) ((i : Nat) : Int) (xlots d).toNat) : Nat) : Int))) (d 0 2) a2 := fun i hi => by
                    by_cases c0 : (i : Int) < v1942
                    · exact (by assumption : ∀ i : Nat, (i : Int) < v1942 → ¬ XLF (xvy e d (xlot d (((xith (xnq d) ((i : Nat) : Int) (xlots d).toNat) : Nat) : Int))) (d 0 2) a2) i c0
                    · rw [show i = (v1942).toNat by omega]
                      assumption
                  refine wp_of e142 c142_61 (rw_iinc (pc' := 64) (z := v1942) (L' := [(3, vI (v1942 + 1)), (0, .ref r0), (1, .ref r1), (2, vI a2)]) rfl rfl rfl rfl ?_)
                  refine wp_of e142 c142_64 (rw_goto (p1 := 32) (by decide) ?_)
                  exact wp_lc (ks := [3, 0, 1, 2]) (wl_c rfl (wl_c rfl (wl_c rfl (wl_c rfl wl_n)))) rfl (by decide) (ih1941 _ (by omega) (v1942 + 1) ⟨by omega, by omega⟩ (by omega) (_q) rfl)
                · exfalso
                  omega
        exact wp_lc (ks := [3, 0, 1, 2]) (wl_c rfl (wl_c rfl (wl_c rfl (wl_c rfl wl_n)))) rfl (by decide) (lp1939 _ 0 ⟨by decide, by decide⟩ (by omega) (fun i hi => by omega) rfl)
      · exfalso
        omega
/-! StrikeAwake$Grounds.oneHour(LStrikeAwake$Parish;)I  -/
abbrev uq_141 (r0 : Nat) (r1 : Nat) (e : xD) (d : xD) (n : Int) (T : wq_T) (H : wq_H) : Option Value → wq_T → wq_H → Prop := fun r T' H' => T = T' ∧ WT T H' ∧ wfr [(25, 2)] T H H' ∧ ∃ z : Int, some (vI z) = r ∧ ((-2147483648) ≤ z ∧ z ≤ 2147483647) ∧ (((0 ≤ z ∧ z ≤ 16777215) ∧ (XP1 (e 13) (XPV e d (xlots d).toNat) z)) ∨ ((z = -2) ∧ (XN1 (e 13) (XPV e d (xlots d).toNat))))
set_option maxHeartbeats 4000000 in
theorem u_141 {kt : Nat → Option mc_E} {T : wq_T} {H : wq_H} {r0 : Nat} {r1 : Nat} {e : xD} {d : xD} {n : Int} (hW : WT T H) (g0 : T.2.2.2 r0 = some 25) (g1 : T.2.2.2 r1 = some 27) (p0 : ∀ i, i ≠ 13 → e i = d i) (p1 : XW d) (p2 : e 0 3 = d 0 3) (p3 : n = xlots d) (p4 : e 0 0 = d 0 0) (p5 : H r0 1 = xcn (xnq d) (xlots d).toNat) (hCU_r1 : CU T H r1 e d n) (hGF0_r0 : GF0 T H r0 (xcn (xnq d) (xlots d).toNat) (xgf e d (xlots d).toNat)) : wpc kt 4 141 [.ref r0, .ref r1] T H (uq_141 r0 r1 e d n T H) := by
  refine wp_enter e141 (Nat.le_of_ble_eq_true rfl) rfl ?_
  have f0 : wfr [(25, 2)] T H H := wfr.rf
  show wp _ _ 141 0 [(0, .ref r0), (1, .ref r1)] [] _ H _
  have u1282 := CU_k hCU_r1
  have b1283 : 0 ≤ H r0 1 ∧ H r0 1 ≤ 5000 := hW.box g0 (n := 3) rfl (by decide) rfl
  have b1284 : 0 ≤ H r1 16 ∧ H r1 16 ≤ 24 := hW.box g1 (n := 19) rfl (by decide) rfl
  have h1285 : SV T H r1 (e 13) 24 := hCU_r1.1.2.2.2.1
  have _k := CU_k hCU_r1
  have _xc := p1.2.1
  unfold XC at _xc
  have _d0 := p0 0 (by decide)
  have _e3 : e 0 3 = d 0 3 := by rw [_d0]
  have _e4 : e 0 4 = d 0 4 := by rw [_d0]
  have _e5 : e 0 5 = d 0 5 := by rw [_d0]
  have _nb := xcn_b (f := xnq d) (xlots d).toNat
  have _c16 := hCU_r1.1.1.2.2.2.2.2.2.2.2.2.2.2.1
  refine wp_of e141 c141_0 (rw_iconst (pc' := 1) rfl ?_)
  refine wp_of e141 c141_1 (rw_istore_n (pc' := 2) (z := 0) (L' := [(2, vI 0), (0, .ref r0), (1, .ref r1)]) rfl rfl rfl ?_)
  have lp1534 : ∀ (n1535 : Nat) (v1537 : Int) (H1538 : wq_H), WT T H1538 → wfr [(25, 2)] T H H1538 → (0 ≤ v1537 ∧ v1537 ≤ 24) → (v1537 ≤ H1538 r1 16) → (I1 (e 13) (XPV e d (xlots d).toNat) v1537) → (24 - v1537).toNat = n1535 → wp kt 3 141 2 [(2, vI v1537), (0, .ref r0), (1, .ref r1)] [] T H1538 (uq_141 r0 r1 e d n T H) := by
    intro n1535
    induction n1535 using Nat.strongRecOn with
    | _ n1535 ih1536 =>
      intro v1537 H1538 w1539 f1540 b1541 x1543 x1544 m1542
      have f1545 := f0.tr f1540 rfl
      have k1546 : H1538 r0 1 = H r0 1 := (f1540 r0 1 _ g0 rfl)
      have k1547 : H1538 r1 16 = H r1 16 := (f1540 r1 16 _ g1 rfl)
      refine wp_of e141 c141_2 (rw_iload_n (pc' := 3) (z := v1537) rfl rfl ?_)
      refine wp_of e141 c141_3 (rw_aload_n (pc' := 4) (v := .ref r1) rfl rfl rfl ?_)
      refine wp_of e141 c141_4 (xg_I (pc' := 7) lf_6_88 w1539 g1 sh_27 (by decide) (by decide) ty_27_16 rfl rfl (fun b1548 b1549 => ?_))
      refine wp_of e141 c141_7 (rw_icmp_ge (p1 := 36) (p2 := 10) (by decide) rfl ⟨Int.le_trans (by decide) b1541.1, Int.le_trans b1541.2 (by decide)⟩ ⟨Int.le_trans (by decide) b1548, Int.le_trans b1549 (by decide)⟩ (fun c1550 => ?_) (fun c1550 => ?_))
      · have _z : XN1 (e 13) (XPV e d (xlots d).toNat) := I1_e (by assumption : I1 (e 13) (XPV e d (xlots d).toNat) v1537) (by omega)
        refine wp_of e141 c141_36 (rw_bipush (pc' := 38) (z := -2) rfl (by decide) ?_)
        exact wp_ireturn e141 c141_38 rfl ⟨rfl, w1539, f1545, -2, rfl, ⟨by decide, by decide⟩, (Or.inr ⟨by omega, _z⟩)⟩
      · refine wp_of e141 c141_10 (rw_iconst (pc' := 11) rfl ?_)
        refine wp_of e141 c141_11 (rw_aload_n (pc' := 12) (v := .ref r1) rfl rfl rfl ?_)
        refine wp_of e141 c141_12 (xg_R (pc' := 15) lf_6_91 w1539 g1 sh_27 (by decide) (by decide) ty_27_2 rfl rfl (fun r1551 q1552 g1553 => ?_))
        refine wp_of e141 c141_15 (rw_iload_n (pc' := 16) (z := v1537) rfl rfl ?_)
        refine wp_of e141 c141_16 (xa_I (so := 0) (pc' := 17) w1539 g1553 sh_30 (by decide) (ty_30 _) (b1541.1) (by omega) rfl (fun b1554 b1555 => ?_))
        have h1556 : SV T H1538 r1 (e 13) 24 := (SV_fr hW g1 f1540 rfl h1285)
        have _gx1 := xGi_ex (f := e 13) (a := v1537) (by omega) (by omega)
        have _sv1 := SV_at h1556 q1552 (h := xGi (e 13) v1537) (by omega) _gx1.1
        rw [_gx1.2.1] at _sv1
        refine wp_of e141 c141_17 (rw_ishl (pc' := 18) rfl ?_)
        obtain ⟨v1557, e1558⟩ : ∃ x : Int, x = wq_shl 1 (H1538 r1551 (v1537.toNat)) := ⟨_, rfl⟩
        rw [← e1558]
        have b1559 : 1 ≤ v1557 ∧ v1557 ≤ 8388608 := by
          rw [e1558]
          exact wq_shl1_24 ⟨by omega, by omega⟩
        have _y1 : v1557 = Y1 (xGi (e 13) v1537) := by
          unfold Y1
          rw [← _sv1]
          exact e1558
        refine wp_of e141 c141_18 (rw_istore_n (pc' := 19) (z := v1557) (L' := [(3, vI v1557), (2, vI v1537), (0, .ref r0), (1, .ref r1)]) rfl rfl rfl ?_)
        refine wp_of e141 c141_19 (rw_aload_n (pc' := 20) (v := .ref r0) rfl rfl rfl ?_)
        refine wp_of e141 c141_20 (rw_aload_n (pc' := 21) (v := .ref r1) rfl rfl rfl ?_)
        refine wp_of e141 c141_21 (rw_iload_n (pc' := 22) (z := v1557) rfl rfl ?_)
        have _nb3 : nbf 24 (v1557).toNat ≤ 3 := by
          rw [_y1]
          have := nbY1 _gx1.2.2
          omega
        have _yb : 0 ≤ v1557 ∧ v1557 ≤ 16777215 := by
          rw [_y1]
          exact Y1_b _gx1.2.2
        have h1560 : CU T H1538 r1 e d n := (CU_fr hW g1 f1540 rfl hCU_r1)
        have h1561 : GF0 T H1538 r0 (xcn (xnq d) (xlots d).toNat) (xgf e d (xlots d).toNat) := (GF0_fr hW g0 f1540 rfl hGF0_r0)
        refine wp_of e141 c141_22 (xc_V (pc' := 25) (r := r0) (as := [.ref r1, vI v1557]) (st := []) (lm_6_100) rfl rfl (Nat.le_of_ble_eq_true rfl) w1539 g0 sh_25 (by decide) rfl (by decide) (u_142 (e := e) (d := d) (n := n) w1539 g0 g1 ⟨Int.le_trans (by decide) b1559.1, Int.le_trans b1559.2 (by decide)⟩ (by assumption) (by assumption) (by omega) (by omega) (by omega) (by omega) (by assumption) h1560 h1561) (fun R1562 T1563 H1564 p1565 => ?_))
        obtain ⟨e1566, w1568, f1569, z1570, e1567, b1571, p1572⟩ := p1565
        subst e1566
        subst e1567
        rcases p1572 with ⟨a1573, a1574⟩ | ⟨a1575, a1576⟩
        · have f1577 := f1545.tr f1569 rfl
          have f1578 := f1540.tr f1569 rfl
          show wp _ _ 141 25 [(3, vI v1557), (2, vI v1537), (0, .ref r0), (1, .ref r1)] [vI z1570] _ H1564 _
          refine wp_of e141 c141_25 (rw_if_eq (p1 := 30) (p2 := 28) (by decide) rfl ⟨Int.le_trans (by decide) b1571.1, Int.le_trans b1571.2 (by decide)⟩ (fun c1579 => ?_) (fun c1579 => ?_))
          · exfalso
            omega
          · have _z : XP1 (e 13) (XPV e d (xlots d).toNat) v1557 := by
              rw [_y1]
              exact I1_f (by assumption : I1 (e 13) (XPV e d (xlots d).toNat) v1537) (by omega) (by omega) (by rw [← _y1]; assumption)
            refine wp_of e141 c141_28 (rw_iload_n (pc' := 29) (z := v1557) rfl rfl ?_)
            exact wp_ireturn e141 c141_29 rfl ⟨rfl, w1568, f1577, v1557, rfl, ⟨Int.le_trans (by decide) b1559.1, Int.le_trans b1559.2 (by decide)⟩, (Or.inl ⟨by omega, _z⟩)⟩
        · have f1580 := f1545.tr f1569 rfl
          have f1581 := f1540.tr f1569 rfl
          show wp _ _ 141 25 [(3, vI v1557), (2, vI v1537), (0, .ref r0), (1, .ref r1)] [vI z1570] _ H1564 _
          refine wp_of e141 c141_25 (rw_if_eq (p1 := 30) (p2 := 28) (by decide) rfl ⟨Int.le_trans (by decide) b1571.1, Int.le_trans b1571.2 (by decide)⟩ (fun c1582 => ?_) (fun c1582 => ?_))
          · have _q : I1 (e 13) (XPV e d (xlots d).toNat) (v1537 + 1) := I1_n (by assumption) (by rw [← _y1]; assumption)
            refine wp_of e141 c141_30 (rw_iinc (pc' := 33) (z := v1537) (L' := [(2, vI (v1537 + 1)), (3, vI v1557), (0, .ref r0), (1, .ref r1)]) rfl rfl rfl rfl ?_)
            refine wp_of e141 c141_33 (rw_goto (p1 := 2) (by decide) ?_)
            have k1583 : H1564 r0 1 = H1538 r0 1 := (f1569 r0 1 _ g0 rfl)
            have k1584 : H1564 r1 16 = H1538 r1 16 := (f1569 r1 16 _ g1 rfl)
            exact wp_lc (ks := [2, 3, 0, 1]) (wl_c rfl (wl_c rfl (wl_c rfl wl_n))) rfl (by decide) (ih1536 _ (by omega) (v1537 + 1) H1564 w1568 f1581 ⟨by omega, by omega⟩ (by omega) (_q) rfl)
          · exfalso
            omega
  exact wp_lc (ks := [2, 0, 1]) (wl_c rfl (wl_c rfl (wl_c rfl wl_n))) rfl (by decide) (lp1534 _ 0 H hW wfr.rf ⟨by decide, by decide⟩ (by omega) (I1_0) rfl)
/-! StrikeAwake$Grounds.twoHours(LStrikeAwake$Parish;)I  -/
abbrev uq_144 (r0 : Nat) (r1 : Nat) (e : xD) (d : xD) (n : Int) (T : wq_T) (H : wq_H) : Option Value → wq_T → wq_H → Prop := fun r T' H' => T = T' ∧ WT T H' ∧ wfr [(25, 2)] T H H' ∧ ∃ z : Int, some (vI z) = r ∧ ((-2147483648) ≤ z ∧ z ≤ 2147483647) ∧ (((0 ≤ z ∧ z ≤ 16777215) ∧ (XP2 (e 13) (XPV e d (xlots d).toNat) z)) ∨ ((z = -2) ∧ (XN2 (e 13) (XPV e d (xlots d).toNat))))
set_option maxHeartbeats 4000000 in
theorem u_144 {kt : Nat → Option mc_E} {T : wq_T} {H : wq_H} {r0 : Nat} {r1 : Nat} {e : xD} {d : xD} {n : Int} (hW : WT T H) (g0 : T.2.2.2 r0 = some 25) (g1 : T.2.2.2 r1 = some 27) (p0 : ∀ i, i ≠ 13 → e i = d i) (p1 : XW d) (p2 : e 0 3 = d 0 3) (p3 : n = xlots d) (p4 : e 0 0 = d 0 0) (p5 : H r0 1 = xcn (xnq d) (xlots d).toNat) (hCU_r1 : CU T H r1 e d n) (hGF0_r0 : GF0 T H r0 (xcn (xnq d) (xlots d).toNat) (xgf e d (xlots d).toNat)) : wpc kt 4 144 [.ref r0, .ref r1] T H (uq_144 r0 r1 e d n T H) := by
  refine wp_enter e144 (Nat.le_of_ble_eq_true rfl) rfl ?_
  have f0 : wfr [(25, 2)] T H H := wfr.rf
  show wp _ _ 144 0 [(0, .ref r0), (1, .ref r1)] [] _ H _
  have u3088 := CU_k hCU_r1
  have b3089 : 0 ≤ H r0 1 ∧ H r0 1 ≤ 5000 := hW.box g0 (n := 3) rfl (by decide) rfl
  have b3090 : 0 ≤ H r1 16 ∧ H r1 16 ≤ 24 := hW.box g1 (n := 19) rfl (by decide) rfl
  have h3091 : SV T H r1 (e 13) 24 := hCU_r1.1.2.2.2.1
  have _k := CU_k hCU_r1
  have _xc := p1.2.1
  unfold XC at _xc
  have _d0 := p0 0 (by decide)
  have _e3 : e 0 3 = d 0 3 := by rw [_d0]
  have _e4 : e 0 4 = d 0 4 := by rw [_d0]
  have _e5 : e 0 5 = d 0 5 := by rw [_d0]
  have _nb := xcn_b (f := xnq d) (xlots d).toNat
  have _c16 := hCU_r1.1.1.2.2.2.2.2.2.2.2.2.2.2.1
  refine wp_of e144 c144_0 (rw_iconst (pc' := 1) rfl ?_)
  refine wp_of e144 c144_1 (rw_istore_n (pc' := 2) (z := 1) (L' := [(2, vI 1), (0, .ref r0), (1, .ref r1)]) rfl rfl rfl ?_)
  have lp4866 : ∀ (n4867 : Nat) (v4869 : Int) (H4870 : wq_H), WT T H4870 → wfr [(25, 2)] T H H4870 → (1 ≤ v4869 ∧ v4869 ≤ 24) → (v4869 ≤ H4870 r1 16 ∨ v4869 = 1) → (I2 (e 13) (XPV e d (xlots d).toNat) v4869) → (24 - v4869).toNat = n4867 → wp kt 3 144 2 [(2, vI v4869), (0, .ref r0), (1, .ref r1)] [] T H4870 (uq_144 r0 r1 e d n T H) := by
    intro n4867
    induction n4867 using Nat.strongRecOn with
    | _ n4867 ih4868 =>
      intro v4869 H4870 w4871 f4872 b4873 x4875 x4876 m4874
      have f4877 := f0.tr f4872 rfl
      have k4878 : H4870 r0 1 = H r0 1 := (f4872 r0 1 _ g0 rfl)
      have k4879 : H4870 r1 16 = H r1 16 := (f4872 r1 16 _ g1 rfl)
      refine wp_of e144 c144_2 (rw_iload_n (pc' := 3) (z := v4869) rfl rfl ?_)
      refine wp_of e144 c144_3 (rw_aload_n (pc' := 4) (v := .ref r1) rfl rfl rfl ?_)
      refine wp_of e144 c144_4 (xg_I (pc' := 7) lf_6_88 w4871 g1 sh_27 (by decide) (by decide) ty_27_16 rfl rfl (fun b4880 b4881 => ?_))
      refine wp_of e144 c144_7 (rw_icmp_ge (p1 := 61) (p2 := 10) (by decide) rfl ⟨Int.le_trans (by decide) b4873.1, Int.le_trans b4873.2 (by decide)⟩ ⟨Int.le_trans (by decide) b4880, Int.le_trans b4881 (by decide)⟩ (fun c4882 => ?_) (fun c4882 => ?_))
      · have _z : XN2 (e 13) (XPV e d (xlots d).toNat) := I2_e (by assumption : I2 (e 13) (XPV e d (xlots d).toNat) v4869) (by omega)
        refine wp_of e144 c144_61 (rw_bipush (pc' := 63) (z := -2) rfl (by decide) ?_)
        exact wp_ireturn e144 c144_63 rfl ⟨rfl, w4871, f4877, -2, rfl, ⟨by decide, by decide⟩, (Or.inr ⟨by omega, _z⟩)⟩
      · refine wp_of e144 c144_10 (rw_iconst (pc' := 11) rfl ?_)
        refine wp_of e144 c144_11 (rw_istore_n (pc' := 12) (z := 0) (L' := [(3, vI 0), (2, vI v4869), (0, .ref r0), (1, .ref r1)]) rfl rfl rfl ?_)
        have lp5171 : ∀ (n5172 : Nat) (v5174 : Int) (H5175 : wq_H), WT T H5175 → wfr [(25, 2)] T H4870 H5175 → (0 ≤ v5174 ∧ v5174 ≤ 23) → (v5174 ≤ v4869) → (J2 (e 13) (XPV e d (xlots d).toNat) v4869 v5174) → (23 - v5174).toNat = n5172 → wp kt 3 144 12 [(3, vI v5174), (2, vI v4869), (0, .ref r0), (1, .ref r1)] [] T H5175 (uq_144 r0 r1 e d n T H) := by
          intro n5172
          induction n5172 using Nat.strongRecOn with
          | _ n5172 ih5173 =>
            intro v5174 H5175 w5176 f5177 b5178 x5180 x5181 m5179
            have f5182 := f4877.tr f5177 rfl
            have f5183 := f4872.tr f5177 rfl
            have k5184 : H5175 r0 1 = H4870 r0 1 := (f5177 r0 1 _ g0 rfl)
            have k5185 : H5175 r1 16 = H4870 r1 16 := (f5177 r1 16 _ g1 rfl)
            refine wp_of e144 c144_12 (rw_iload_n (pc' := 13) (z := v5174) rfl rfl ?_)
            refine wp_of e144 c144_13 (rw_iload_n (pc' := 14) (z := v4869) rfl rfl ?_)
            refine wp_of e144 c144_14 (rw_icmp_ge (p1 := 55) (p2 := 17) (by decide) rfl ⟨Int.le_trans (by decide) b5178.1, Int.le_trans b5178.2 (by decide)⟩ ⟨Int.le_trans (by decide) b4873.1, Int.le_trans b4873.2 (by decide)⟩ (fun c5186 => ?_) (fun c5186 => ?_))
            · have _qi : I2 (e 13) (XPV e d (xlots d).toNat) (v4869 + 1) := I2_n (by assumption) (by assumption : J2 (e 13) (XPV e d (xlots d).toNat) v4869 v5174) (by omega)
              refine wp_of e144 c144_55 (rw_iinc (pc' := 58) (z := v4869) (L' := [(2, vI (v4869 + 1)), (3, vI v5174), (0, .ref r0), (1, .ref r1)]) rfl rfl rfl rfl ?_)
              refine wp_of e144 c144_58 (rw_goto (p1 := 2) (by decide) ?_)
              exact wp_lc (ks := [2, 3, 0, 1]) (wl_c rfl (wl_c rfl (wl_c rfl wl_n))) rfl (by decide) (ih4868 _ (by omega) (v4869 + 1) H5175 w5176 f5183 ⟨by omega, by omega⟩ (by omega) (_qi) rfl)
            · refine wp_of e144 c144_17 (rw_iconst (pc' := 18) rfl ?_)
              refine wp_of e144 c144_18 (rw_aload_n (pc' := 19) (v := .ref r1) rfl rfl rfl ?_)
              refine wp_of e144 c144_19 (xg_R (pc' := 22) lf_6_91 w5176 g1 sh_27 (by decide) (by decide) ty_27_2 rfl rfl (fun r5187 q5188 g5189 => ?_))
              refine wp_of e144 c144_22 (rw_iload_n (pc' := 23) (z := v4869) rfl rfl ?_)
              refine wp_of e144 c144_23 (xa_I (so := 0) (pc' := 24) w5176 g5189 sh_30 (by decide) (ty_30 _) (Int.le_trans (by decide) b4873.1) (by omega) rfl (fun b5190 b5191 => ?_))
              have h5192 : SV T H5175 r1 (e 13) 24 := (SV_fr w4871 g1 f5177 rfl (SV_fr hW g1 f4872 rfl h3091))
              have _gx1 := xGi_ex (f := e 13) (a := v4869) (by omega) (by omega)
              have _sv1 := SV_at h5192 q5188 (h := xGi (e 13) v4869) (by omega) _gx1.1
              rw [_gx1.2.1] at _sv1
              refine wp_of e144 c144_24 (rw_ishl (pc' := 25) rfl ?_)
              obtain ⟨v5193, e5194⟩ : ∃ x : Int, x = wq_shl 1 (H5175 r5187 (v4869.toNat)) := ⟨_, rfl⟩
              rw [← e5194]
              have b5195 : 1 ≤ v5193 ∧ v5193 ≤ 8388608 := by
                rw [e5194]
                exact wq_shl1_24 ⟨by omega, by omega⟩
              have _y1 : v5193 = Y1 (xGi (e 13) v4869) := by
                unfold Y1
                rw [← _sv1]
                exact e5194
              refine wp_of e144 c144_25 (rw_iconst (pc' := 26) rfl ?_)
              refine wp_of e144 c144_26 (rw_aload_n (pc' := 27) (v := .ref r1) rfl rfl rfl ?_)
              refine wp_of e144 c144_27 (xg_K (pc' := 30) lf_6_91 w5176 g1 sh_27 (by decide) (by decide) rfl q5188 rfl ?_)
              refine wp_of e144 c144_30 (rw_iload_n (pc' := 31) (z := v5174) rfl rfl ?_)
              refine wp_of e144 c144_31 (xa_I (so := 0) (pc' := 32) w5176 g5189 sh_30 (by decide) (ty_30 _) (b5178.1) (Int.lt_of_le_of_lt b5178.2 (by decide)) rfl (fun b5196 b5197 => ?_))
              have _gx2 := xGi_ex (f := e 13) (a := v5174) (by omega) (by omega)
              have _sv2 := SV_at h5192 q5188 (h := xGi (e 13) v5174) (by omega) _gx2.1
              rw [_gx2.2.1] at _sv2
              refine wp_of e144 c144_32 (rw_ishl (pc' := 33) rfl ?_)
              obtain ⟨v5198, e5199⟩ : ∃ x : Int, x = wq_shl 1 (H5175 r5187 (v5174.toNat)) := ⟨_, rfl⟩
              rw [← e5199]
              have b5200 : 1 ≤ v5198 ∧ v5198 ≤ 8388608 := by
                rw [e5199]
                exact wq_shl1_24 ⟨by omega, by omega⟩
              have _y2 : v5198 = Y1 (xGi (e 13) v5174) := by
                unfold Y1
                rw [← _sv2]
                exact e5199
              refine wp_of e144 c144_33 (rw_ior (pc' := 34) rfl ?_)
              obtain ⟨v5201, e5202⟩ : ∃ x : Int, x = wq_or v5193 v5198 := ⟨_, rfl⟩
              rw [← e5202]
              have b5203 : 0 ≤ v5201 ∧ v5201 ≤ 16777215 := by
                rw [e5202]
                exact wq_or_24 ⟨by omega, by omega⟩ ⟨by omega, by omega⟩
              have _y5 : v5201 = Y2 (xGi (e 13) v4869) (xGi (e 13) v5174) := by
                show _ = wq_or _ _
                rw [← _y1, ← _y2]
                exact e5202
              refine wp_of e144 c144_34 (rw_istore (pc' := 36) (z := v5201) (L' := [(4, vI v5201), (3, vI v5174), (2, vI v4869), (0, .ref r0), (1, .ref r1)]) rfl rfl rfl ?_)
              refine wp_of e144 c144_36 (rw_aload_n (pc' := 37) (v := .ref r0) rfl rfl rfl ?_)
              refine wp_of e144 c144_37 (rw_aload_n (pc' := 38) (v := .ref r1) rfl rfl rfl ?_)
              refine wp_of e144 c144_38 (rw_iload (pc' := 40) (z := v5201) rfl rfl ?_)
              have _nb3 : nbf 24 (v5201).toNat ≤ 3 := by
                rw [_y5]
                have := nbY2 _gx1.2.2 _gx2.2.2
                omega
              have _yb : 0 ≤ v5201 ∧ v5201 ≤ 16777215 := by
                rw [_y5]
                exact Y2_b _gx1.2.2 _gx2.2.2
              have h5204 : CU T H5175 r1 e d n := (CU_fr w4871 g1 f5177 rfl (CU_fr hW g1 f4872 rfl hCU_r1))
              have h5205 : GF0 T H5175 r0 (xcn (xnq d) (xlots d).toNat) (xgf e d (xlots d).toNat) := (GF0_fr w4871 g0 f5177 rfl (GF0_fr hW g0 f4872 rfl hGF0_r0))
              refine wp_of e144 c144_40 (xc_V (pc' := 43) (r := r0) (as := [.ref r1, vI v5201]) (st := []) (lm_6_100) rfl rfl (Nat.le_of_ble_eq_true rfl) w5176 g0 sh_25 (by decide) rfl (by decide) (u_142 (e := e) (d := d) (n := n) w5176 g0 g1 ⟨b5203.1, b5203.2⟩ (by assumption) (by assumption) (by omega) (by omega) (by omega) (by omega) (by assumption) h5204 h5205) (fun R5206 T5207 H5208 p5209 => ?_))
              obtain ⟨e5210, w5212, f5213, z5214, e5211, b5215, p5216⟩ := p5209
              subst e5210
              subst e5211
              rcases p5216 with ⟨a5217, a5218⟩ | ⟨a5219, a5220⟩
              · have f5221 := f5182.tr f5213 rfl
                have f5222 := f5183.tr f5213 rfl
                have f5223 := f5177.tr f5213 rfl
                show wp _ _ 144 43 [(4, vI v5201), (3, vI v5174), (2, vI v4869), (0, .ref r0), (1, .ref r1)] [vI z5214] _ H5208 _
                refine wp_of e144 c144_43 (rw_if_eq (p1 := 49) (p2 := 46) (by decide) rfl ⟨Int.le_trans (by decide) b5215.1, Int.le_trans b5215.2 (by decide)⟩ (fun c5224 => ?_) (fun c5224 => ?_))
                · exfalso
                  omega
                · have _z : XP2 (e 13) (XPV e d (xlots d).toNat) v5201 := by
                    rw [_y5]
                    exact I2_f (by assumption : I2 (e 13) (XPV e d (xlots d).toNat) v4869) (by assumption : J2 (e 13) (XPV e d (xlots d).toNat) v4869 v5174) (by omega) (by omega) (by omega) (by rw [← _y5]; assumption)
                  refine wp_of e144 c144_46 (rw_iload (pc' := 48) (z := v5201) rfl rfl ?_)
                  exact wp_ireturn e144 c144_48 rfl ⟨rfl, w5212, f5221, v5201, rfl, ⟨Int.le_trans (by decide) b5203.1, Int.le_trans b5203.2 (by decide)⟩, (Or.inl ⟨by omega, _z⟩)⟩
              · have f5225 := f5182.tr f5213 rfl
                have f5226 := f5183.tr f5213 rfl
                have f5227 := f5177.tr f5213 rfl
                show wp _ _ 144 43 [(4, vI v5201), (3, vI v5174), (2, vI v4869), (0, .ref r0), (1, .ref r1)] [vI z5214] _ H5208 _
                refine wp_of e144 c144_43 (rw_if_eq (p1 := 49) (p2 := 46) (by decide) rfl ⟨Int.le_trans (by decide) b5215.1, Int.le_trans b5215.2 (by decide)⟩ (fun c5228 => ?_) (fun c5228 => ?_))
                · have _qj : J2 (e 13) (XPV e d (xlots d).toNat) v4869 (v5174 + 1) := J2_n (by assumption) (by rw [← _y5]; assumption)
                  refine wp_of e144 c144_49 (rw_iinc (pc' := 52) (z := v5174) (L' := [(3, vI (v5174 + 1)), (4, vI v5201), (2, vI v4869), (0, .ref r0), (1, .ref r1)]) rfl rfl rfl rfl ?_)
                  refine wp_of e144 c144_52 (rw_goto (p1 := 12) (by decide) ?_)
                  have k5229 : H5208 r0 1 = H5175 r0 1 := (f5213 r0 1 _ g0 rfl)
                  have k5230 : H5208 r1 16 = H5175 r1 16 := (f5213 r1 16 _ g1 rfl)
                  exact wp_lc (ks := [3, 4, 2, 0, 1]) (wl_c rfl (wl_c rfl (wl_c rfl (wl_c rfl wl_n)))) rfl (by decide) (ih5173 _ (by omega) (v5174 + 1) H5208 w5212 f5227 ⟨by omega, by omega⟩ (by omega) (_qj) rfl)
                · exfalso
                  omega
        exact wp_lc (ks := [3, 2, 0, 1]) (wl_c rfl (wl_c rfl (wl_c rfl (wl_c rfl wl_n)))) rfl (by decide) (lp5171 _ 0 H4870 w4871 wfr.rf ⟨by decide, by decide⟩ (by omega) (J2_0) rfl)
  exact wp_lc (ks := [2, 0, 1]) (wl_c rfl (wl_c rfl (wl_c rfl wl_n))) rfl (by decide) (lp4866 _ 1 H hW wfr.rf ⟨by decide, by decide⟩ (by omega) (I2_1) rfl)
/-! StrikeAwake$Grounds.threeHours(LStrikeAwake$Parish;)I  -/
abbrev uq_145 (r0 : Nat) (r1 : Nat) (e : xD) (d : xD) (n : Int) (T : wq_T) (H : wq_H) : Option Value → wq_T → wq_H → Prop := fun r T' H' => T = T' ∧ WT T H' ∧ wfr [(25, 2)] T H H' ∧ ∃ z : Int, some (vI z) = r ∧ ((-2147483648) ≤ z ∧ z ≤ 2147483647) ∧ (((0 ≤ z ∧ z ≤ 16777215) ∧ (XP3 (e 13) (XPV e d (xlots d).toNat) z)) ∨ ((z = -2) ∧ (XN3 (e 13) (XPV e d (xlots d).toNat))))
set_option maxHeartbeats 4000000 in
theorem u_145 {kt : Nat → Option mc_E} {T : wq_T} {H : wq_H} {r0 : Nat} {r1 : Nat} {e : xD} {d : xD} {n : Int} (hW : WT T H) (g0 : T.2.2.2 r0 = some 25) (g1 : T.2.2.2 r1 = some 27) (p0 : ∀ i, i ≠ 13 → e i = d i) (p1 : XW d) (p2 : e 0 3 = d 0 3) (p3 : n = xlots d) (p4 : e 0 0 = d 0 0) (p5 : H r0 1 = xcn (xnq d) (xlots d).toNat) (hCU_r1 : CU T H r1 e d n) (hGF0_r0 : GF0 T H r0 (xcn (xnq d) (xlots d).toNat) (xgf e d (xlots d).toNat)) : wpc kt 4 145 [.ref r0, .ref r1] T H (uq_145 r0 r1 e d n T H) := by
  refine wp_enter e145 (Nat.le_of_ble_eq_true rfl) rfl ?_
  have f0 : wfr [(25, 2)] T H H := wfr.rf
  show wp _ _ 145 0 [(0, .ref r0), (1, .ref r1)] [] _ H _
  have u14928 := CU_k hCU_r1
  have b14929 : 0 ≤ H r0 1 ∧ H r0 1 ≤ 5000 := hW.box g0 (n := 3) rfl (by decide) rfl
  have b14930 : 0 ≤ H r1 16 ∧ H r1 16 ≤ 24 := hW.box g1 (n := 19) rfl (by decide) rfl
  have h14931 : SV T H r1 (e 13) 24 := hCU_r1.1.2.2.2.1
  have _k := CU_k hCU_r1
  have _xc := p1.2.1
  unfold XC at _xc
  have _d0 := p0 0 (by decide)
  have _e3 : e 0 3 = d 0 3 := by rw [_d0]
  have _e4 : e 0 4 = d 0 4 := by rw [_d0]
  have _e5 : e 0 5 = d 0 5 := by rw [_d0]
  have _nb := xcn_b (f := xnq d) (xlots d).toNat
  have _c16 := hCU_r1.1.1.2.2.2.2.2.2.2.2.2.2.2.1
  refine wp_of e145 c145_0 (rw_iconst (pc' := 1) rfl ?_)
  refine wp_of e145 c145_1 (rw_istore_n (pc' := 2) (z := 2) (L' := [(2, vI 2), (0, .ref r0), (1, .ref r1)]) rfl rfl rfl ?_)
  have lp26434 : ∀ (n26435 : Nat) (v26437 : Int) (H26438 : wq_H), WT T H26438 → wfr [(25, 2)] T H H26438 → (2 ≤ v26437 ∧ v26437 ≤ 24) → (v26437 ≤ H26438 r1 16 ∨ v26437 = 2) → (I3 (e 13) (XPV e d (xlots d).toNat) v26437) → (24 - v26437).toNat = n26435 → wp kt 3 145 2 [(2, vI v26437), (0, .ref r0), (1, .ref r1)] [] T H26438 (uq_145 r0 r1 e d n T H) := by
    intro n26435
    induction n26435 using Nat.strongRecOn with
    | _ n26435 ih26436 =>
      intro v26437 H26438 w26439 f26440 b26441 x26443 x26444 m26442
      have f26445 := f0.tr f26440 rfl
      have k26446 : H26438 r0 1 = H r0 1 := (f26440 r0 1 _ g0 rfl)
      have k26447 : H26438 r1 16 = H r1 16 := (f26440 r1 16 _ g1 rfl)
      refine wp_of e145 c145_2 (rw_iload_n (pc' := 3) (z := v26437) rfl rfl ?_)
      refine wp_of e145 c145_3 (rw_aload_n (pc' := 4) (v := .ref r1) rfl rfl rfl ?_)
      refine wp_of e145 c145_4 (xg_I (pc' := 7) lf_6_88 w26439 g1 sh_27 (by decide) (by decide) ty_27_16 rfl rfl (fun b26448 b26449 => ?_))
      refine wp_of e145 c145_7 (rw_icmp_ge (p1 := 90) (p2 := 10) (by decide) rfl ⟨Int.le_trans (by decide) b26441.1, Int.le_trans b26441.2 (by decide)⟩ ⟨Int.le_trans (by decide) b26448, Int.le_trans b26449 (by decide)⟩ (fun c26450 => ?_) (fun c26450 => ?_))
      · have _z : XN3 (e 13) (XPV e d (xlots d).toNat) := I3_e (by assumption : I3 (e 13) (XPV e d (xlots d).toNat) v26437) (by omega)
        refine wp_of e145 c145_90 (rw_bipush (pc' := 92) (z := -2) rfl (by decide) ?_)
        exact wp_ireturn e145 c145_92 rfl ⟨rfl, w26439, f26445, -2, rfl, ⟨by decide, by decide⟩, (Or.inr ⟨by omega, _z⟩)⟩
      · refine wp_of e145 c145_10 (rw_iconst (pc' := 11) rfl ?_)
        refine wp_of e145 c145_11 (rw_istore_n (pc' := 12) (z := 1) (L' := [(3, vI 1), (2, vI v26437), (0, .ref r0), (1, .ref r1)]) rfl rfl rfl ?_)
        have lp28609 : ∀ (n28610 : Nat) (v28612 : Int) (H28613 : wq_H), WT T H28613 → wfr [(25, 2)] T H26438 H28613 → (1 ≤ v28612 ∧ v28612 ≤ 23) → (v28612 ≤ v26437) → (J3 (e 13) (XPV e d (xlots d).toNat) v26437 v28612) → (23 - v28612).toNat = n28610 → wp kt 3 145 12 [(3, vI v28612), (2, vI v26437), (0, .ref r0), (1, .ref r1)] [] T H28613 (uq_145 r0 r1 e d n T H) := by
          intro n28610
          induction n28610 using Nat.strongRecOn with
          | _ n28610 ih28611 =>
            intro v28612 H28613 w28614 f28615 b28616 x28618 x28619 m28617
            have f28620 := f26445.tr f28615 rfl
            have f28621 := f26440.tr f28615 rfl
            have k28622 : H28613 r0 1 = H26438 r0 1 := (f28615 r0 1 _ g0 rfl)
            have k28623 : H28613 r1 16 = H26438 r1 16 := (f28615 r1 16 _ g1 rfl)
            refine wp_of e145 c145_12 (rw_iload_n (pc' := 13) (z := v28612) rfl rfl ?_)
            refine wp_of e145 c145_13 (rw_iload_n (pc' := 14) (z := v26437) rfl rfl ?_)
            refine wp_of e145 c145_14 (rw_icmp_ge (p1 := 84) (p2 := 17) (by decide) rfl ⟨Int.le_trans (by decide) b28616.1, Int.le_trans b28616.2 (by decide)⟩ ⟨Int.le_trans (by decide) b26441.1, Int.le_trans b26441.2 (by decide)⟩ (fun c28624 => ?_) (fun c28624 => ?_))
            · have _qi : I3 (e 13) (XPV e d (xlots d).toNat) (v26437 + 1) := I3_n (by assumption) (by assumption : J3 (e 13) (XPV e d (xlots d).toNat) v26437 v28612) (by omega)
              refine wp_of e145 c145_84 (rw_iinc (pc' := 87) (z := v26437) (L' := [(2, vI (v26437 + 1)), (3, vI v28612), (0, .ref r0), (1, .ref r1)]) rfl rfl rfl rfl ?_)
              refine wp_of e145 c145_87 (rw_goto (p1 := 2) (by decide) ?_)
              exact wp_lc (ks := [2, 3, 0, 1]) (wl_c rfl (wl_c rfl (wl_c rfl wl_n))) rfl (by decide) (ih26436 _ (by omega) (v26437 + 1) H28613 w28614 f28621 ⟨by omega, by omega⟩ (by omega) (_qi) rfl)
            · refine wp_of e145 c145_17 (rw_iconst (pc' := 18) rfl ?_)
              refine wp_of e145 c145_18 (rw_istore (pc' := 20) (z := 0) (L' := [(4, vI 0), (3, vI v28612), (2, vI v26437), (0, .ref r0), (1, .ref r1)]) rfl rfl rfl ?_)
              have lp28977 : ∀ (n28978 : Nat) (v28980 : Int) (H28981 : wq_H), WT T H28981 → wfr [(25, 2)] T H28613 H28981 → (0 ≤ v28980 ∧ v28980 ≤ 22) → (v28980 ≤ v28612) → (L3 (e 13) (XPV e d (xlots d).toNat) v26437 v28612 v28980) → (22 - v28980).toNat = n28978 → wp kt 3 145 20 [(4, vI v28980), (3, vI v28612), (2, vI v26437), (0, .ref r0), (1, .ref r1)] [] T H28981 (uq_145 r0 r1 e d n T H) := by
                intro n28978
                induction n28978 using Nat.strongRecOn with
                | _ n28978 ih28979 =>
                  intro v28980 H28981 w28982 f28983 b28984 x28986 x28987 m28985
                  have f28988 := f28620.tr f28983 rfl
                  have f28989 := f28621.tr f28983 rfl
                  have f28990 := f28615.tr f28983 rfl
                  have k28991 : H28981 r0 1 = H28613 r0 1 := (f28983 r0 1 _ g0 rfl)
                  have k28992 : H28981 r1 16 = H28613 r1 16 := (f28983 r1 16 _ g1 rfl)
                  refine wp_of e145 c145_20 (rw_iload (pc' := 22) (z := v28980) rfl rfl ?_)
                  refine wp_of e145 c145_22 (rw_iload_n (pc' := 23) (z := v28612) rfl rfl ?_)
                  refine wp_of e145 c145_23 (rw_icmp_ge (p1 := 78) (p2 := 26) (by decide) rfl ⟨Int.le_trans (by decide) b28984.1, Int.le_trans b28984.2 (by decide)⟩ ⟨Int.le_trans (by decide) b28616.1, Int.le_trans b28616.2 (by decide)⟩ (fun c28993 => ?_) (fun c28993 => ?_))
                  · have _qj : J3 (e 13) (XPV e d (xlots d).toNat) v26437 (v28612 + 1) := J3_n (by assumption) (by assumption : L3 (e 13) (XPV e d (xlots d).toNat) v26437 v28612 v28980) (by omega)
                    refine wp_of e145 c145_78 (rw_iinc (pc' := 81) (z := v28612) (L' := [(3, vI (v28612 + 1)), (4, vI v28980), (2, vI v26437), (0, .ref r0), (1, .ref r1)]) rfl rfl rfl rfl ?_)
                    refine wp_of e145 c145_81 (rw_goto (p1 := 12) (by decide) ?_)
                    exact wp_lc (ks := [3, 4, 2, 0, 1]) (wl_c rfl (wl_c rfl (wl_c rfl (wl_c rfl wl_n)))) rfl (by decide) (ih28611 _ (by omega) (v28612 + 1) H28981 w28982 f28990 ⟨by omega, by omega⟩ (by omega) (_qj) rfl)
                  · refine wp_of e145 c145_26 (rw_iconst (pc' := 27) rfl ?_)
                    refine wp_of e145 c145_27 (rw_aload_n (pc' := 28) (v := .ref r1) rfl rfl rfl ?_)
                    refine wp_of e145 c145_28 (xg_R (pc' := 31) lf_6_91 w28982 g1 sh_27 (by decide) (by decide) ty_27_2 rfl rfl (fun r28994 q28995 g28996 => ?_))
                    refine wp_of e145 c145_31 (rw_iload_n (pc' := 32) (z := v26437) rfl rfl ?_)
                    refine wp_of e145 c145_32 (xa_I (so := 0) (pc' := 33) w28982 g28996 sh_30 (by decide) (ty_30 _) (Int.le_trans (by decide) b26441.1) (by omega) rfl (fun b28997 b28998 => ?_))
                    have h28999 : SV T H28981 r1 (e 13) 24 := (SV_fr w28614 g1 f28983 rfl (SV_fr w26439 g1 f28615 rfl (SV_fr hW g1 f26440 rfl h14931)))
                    have _gx1 := xGi_ex (f := e 13) (a := v26437) (by omega) (by omega)
                    have _sv1 := SV_at h28999 q28995 (h := xGi (e 13) v26437) (by omega) _gx1.1
                    rw [_gx1.2.1] at _sv1
                    refine wp_of e145 c145_33 (rw_ishl (pc' := 34) rfl ?_)
                    obtain ⟨v29000, e29001⟩ : ∃ x : Int, x = wq_shl 1 (H28981 r28994 (v26437.toNat)) := ⟨_, rfl⟩
                    rw [← e29001]
                    have b29002 : 1 ≤ v29000 ∧ v29000 ≤ 8388608 := by
                      rw [e29001]
                      exact wq_shl1_24 ⟨by omega, by omega⟩
                    have _y1 : v29000 = Y1 (xGi (e 13) v26437) := by
                      unfold Y1
                      rw [← _sv1]
                      exact e29001
                    refine wp_of e145 c145_34 (rw_iconst (pc' := 35) rfl ?_)
                    refine wp_of e145 c145_35 (rw_aload_n (pc' := 36) (v := .ref r1) rfl rfl rfl ?_)
                    refine wp_of e145 c145_36 (xg_K (pc' := 39) lf_6_91 w28982 g1 sh_27 (by decide) (by decide) rfl q28995 rfl ?_)
                    refine wp_of e145 c145_39 (rw_iload_n (pc' := 40) (z := v28612) rfl rfl ?_)
                    refine wp_of e145 c145_40 (xa_I (so := 0) (pc' := 41) w28982 g28996 sh_30 (by decide) (ty_30 _) (Int.le_trans (by decide) b28616.1) (Int.lt_of_le_of_lt b28616.2 (by decide)) rfl (fun b29003 b29004 => ?_))
                    have _gx2 := xGi_ex (f := e 13) (a := v28612) (by omega) (by omega)
                    have _sv2 := SV_at h28999 q28995 (h := xGi (e 13) v28612) (by omega) _gx2.1
                    rw [_gx2.2.1] at _sv2
                    refine wp_of e145 c145_41 (rw_ishl (pc' := 42) rfl ?_)
                    obtain ⟨v29005, e29006⟩ : ∃ x : Int, x = wq_shl 1 (H28981 r28994 (v28612.toNat)) := ⟨_, rfl⟩
                    rw [← e29006]
                    have b29007 : 1 ≤ v29005 ∧ v29005 ≤ 8388608 := by
                      rw [e29006]
                      exact wq_shl1_24 ⟨by omega, by omega⟩
                    have _y2 : v29005 = Y1 (xGi (e 13) v28612) := by
                      unfold Y1
                      rw [← _sv2]
                      exact e29006
                    refine wp_of e145 c145_42 (rw_ior (pc' := 43) rfl ?_)
                    obtain ⟨v29008, e29009⟩ : ∃ x : Int, x = wq_or v29000 v29005 := ⟨_, rfl⟩
                    rw [← e29009]
                    have b29010 : 0 ≤ v29008 ∧ v29008 ≤ 16777215 := by
                      rw [e29009]
                      exact wq_or_24 ⟨by omega, by omega⟩ ⟨by omega, by omega⟩
                    have _y5 : v29008 = Y2 (xGi (e 13) v26437) (xGi (e 13) v28612) := by
                      show _ = wq_or _ _
                      rw [← _y1, ← _y2]
                      exact e29009
                    refine wp_of e145 c145_43 (rw_istore (pc' := 45) (z := v29008) (L' := [(5, vI v29008), (4, vI v28980), (3, vI v28612), (2, vI v26437), (0, .ref r0), (1, .ref r1)]) rfl rfl rfl ?_)
                    refine wp_of e145 c145_45 (rw_iload (pc' := 47) (z := v29008) rfl rfl ?_)
                    refine wp_of e145 c145_47 (rw_iconst (pc' := 48) rfl ?_)
                    refine wp_of e145 c145_48 (rw_aload_n (pc' := 49) (v := .ref r1) rfl rfl rfl ?_)
                    refine wp_of e145 c145_49 (xg_K (pc' := 52) lf_6_91 w28982 g1 sh_27 (by decide) (by decide) rfl q28995 rfl ?_)
                    refine wp_of e145 c145_52 (rw_iload (pc' := 54) (z := v28980) rfl rfl ?_)
                    refine wp_of e145 c145_54 (xa_I (so := 0) (pc' := 55) w28982 g28996 sh_30 (by decide) (ty_30 _) (b28984.1) (Int.lt_of_le_of_lt b28984.2 (by decide)) rfl (fun b29011 b29012 => ?_))
                    have _gx3 := xGi_ex (f := e 13) (a := v28980) (by omega) (by omega)
                    have _sv3 := SV_at h28999 q28995 (h := xGi (e 13) v28980) (by omega) _gx3.1
                    rw [_gx3.2.1] at _sv3
                    refine wp_of e145 c145_55 (rw_ishl (pc' := 56) rfl ?_)
                    obtain ⟨v29013, e29014⟩ : ∃ x : Int, x = wq_shl 1 (H28981 r28994 (v28980.toNat)) := ⟨_, rfl⟩
                    rw [← e29014]
                    have b29015 : 1 ≤ v29013 ∧ v29013 ≤ 8388608 := by
                      rw [e29014]
                      exact wq_shl1_24 ⟨by omega, by omega⟩
                    have _y3 : v29013 = Y1 (xGi (e 13) v28980) := by
                      unfold Y1
                      rw [← _sv3]
                      exact e29014
                    refine wp_of e145 c145_56 (rw_ior (pc' := 57) rfl ?_)
                    obtain ⟨v29016, e29017⟩ : ∃ x : Int, x = wq_or v29008 v29013 := ⟨_, rfl⟩
                    rw [← e29017]
                    have b29018 : 0 ≤ v29016 ∧ v29016 ≤ 16777215 := by
                      rw [e29017]
                      exact wq_or_24 ⟨by omega, by omega⟩ ⟨by omega, by omega⟩
                    have _y6 : v29016 = Y3 (xGi (e 13) v26437) (xGi (e 13) v28612) (xGi (e 13) v28980) := by
                      show _ = wq_or _ _
                      rw [← _y5, ← _y3]
                      exact e29017
                    refine wp_of e145 c145_57 (rw_istore (pc' := 59) (z := v29016) (L' := [(6, vI v29016), (5, vI v29008), (4, vI v28980), (3, vI v28612), (2, vI v26437), (0, .ref r0), (1, .ref r1)]) rfl rfl rfl ?_)
                    refine wp_of e145 c145_59 (rw_aload_n (pc' := 60) (v := .ref r0) rfl rfl rfl ?_)
                    refine wp_of e145 c145_60 (rw_aload_n (pc' := 61) (v := .ref r1) rfl rfl rfl ?_)
                    refine wp_of e145 c145_61 (rw_iload (pc' := 63) (z := v29016) rfl rfl ?_)
                    have _nb3 : nbf 24 (v29016).toNat ≤ 3 := by
                      rw [_y6]
                      have := nbY3 _gx1.2.2 _gx2.2.2 _gx3.2.2
                      omega
                    have _yb : 0 ≤ v29016 ∧ v29016 ≤ 16777215 := by
                      rw [_y6]
                      exact Y3_b _gx1.2.2 _gx2.2.2 _gx3.2.2
                    have h29019 : CU T H28981 r1 e d n := (CU_fr w28614 g1 f28983 rfl (CU_fr w26439 g1 f28615 rfl (CU_fr hW g1 f26440 rfl hCU_r1)))
                    have h29020 : GF0 T H28981 r0 (xcn (xnq d) (xlots d).toNat) (xgf e d (xlots d).toNat) := (GF0_fr w28614 g0 f28983 rfl (GF0_fr w26439 g0 f28615 rfl (GF0_fr hW g0 f26440 rfl hGF0_r0)))
                    refine wp_of e145 c145_63 (xc_V (pc' := 66) (r := r0) (as := [.ref r1, vI v29016]) (st := []) (lm_6_100) rfl rfl (Nat.le_of_ble_eq_true rfl) w28982 g0 sh_25 (by decide) rfl (by decide) (u_142 (e := e) (d := d) (n := n) w28982 g0 g1 ⟨b29018.1, b29018.2⟩ (by assumption) (by assumption) (by omega) (by omega) (by omega) (by omega) (by assumption) h29019 h29020) (fun R29021 T29022 H29023 p29024 => ?_))
                    obtain ⟨e29025, w29027, f29028, z29029, e29026, b29030, p29031⟩ := p29024
                    subst e29025
                    subst e29026
                    rcases p29031 with ⟨a29032, a29033⟩ | ⟨a29034, a29035⟩
                    · have f29036 := f28988.tr f29028 rfl
                      have f29037 := f28989.tr f29028 rfl
                      have f29038 := f28990.tr f29028 rfl
                      have f29039 := f28983.tr f29028 rfl
                      show wp _ _ 145 66 [(6, vI v29016), (5, vI v29008), (4, vI v28980), (3, vI v28612), (2, vI v26437), (0, .ref r0), (1, .ref r1)] [vI z29029] _ H29023 _
                      refine wp_of e145 c145_66 (rw_if_eq (p1 := 72) (p2 := 69) (by decide) rfl ⟨Int.le_trans (by decide) b29030.1, Int.le_trans b29030.2 (by decide)⟩ (fun c29040 => ?_) (fun c29040 => ?_))
                      · exfalso
                        omega
                      · have _z : XP3 (e 13) (XPV e d (xlots d).toNat) v29016 := by
                          rw [_y6]
                          exact I3_f (by assumption : I3 (e 13) (XPV e d (xlots d).toNat) v26437) (by assumption : J3 (e 13) (XPV e d (xlots d).toNat) v26437 v28612) (by assumption : L3 (e 13) (XPV e d (xlots d).toNat) v26437 v28612 v28980) (by omega) (by omega) (by omega) (by omega) (by rw [← _y6]; assumption)
                        refine wp_of e145 c145_69 (rw_iload (pc' := 71) (z := v29016) rfl rfl ?_)
                        exact wp_ireturn e145 c145_71 rfl ⟨rfl, w29027, f29036, v29016, rfl, ⟨Int.le_trans (by decide) b29018.1, Int.le_trans b29018.2 (by decide)⟩, (Or.inl ⟨by omega, _z⟩)⟩
                    · have f29041 := f28988.tr f29028 rfl
                      have f29042 := f28989.tr f29028 rfl
                      have f29043 := f28990.tr f29028 rfl
                      have f29044 := f28983.tr f29028 rfl
                      show wp _ _ 145 66 [(6, vI v29016), (5, vI v29008), (4, vI v28980), (3, vI v28612), (2, vI v26437), (0, .ref r0), (1, .ref r1)] [vI z29029] _ H29023 _
                      refine wp_of e145 c145_66 (rw_if_eq (p1 := 72) (p2 := 69) (by decide) rfl ⟨Int.le_trans (by decide) b29030.1, Int.le_trans b29030.2 (by decide)⟩ (fun c29045 => ?_) (fun c29045 => ?_))
                      · have _ql : L3 (e 13) (XPV e d (xlots d).toNat) v26437 v28612 (v28980 + 1) := L3_n (by assumption) (by rw [← _y6]; assumption)
                        refine wp_of e145 c145_72 (rw_iinc (pc' := 75) (z := v28980) (L' := [(4, vI (v28980 + 1)), (6, vI v29016), (5, vI v29008), (3, vI v28612), (2, vI v26437), (0, .ref r0), (1, .ref r1)]) rfl rfl rfl rfl ?_)
                        refine wp_of e145 c145_75 (rw_goto (p1 := 20) (by decide) ?_)
                        have k29046 : H29023 r0 1 = H28981 r0 1 := (f29028 r0 1 _ g0 rfl)
                        have k29047 : H29023 r1 16 = H28981 r1 16 := (f29028 r1 16 _ g1 rfl)
                        exact wp_lc (ks := [4, 6, 5, 3, 2, 0, 1]) (wl_c rfl (wl_c rfl (wl_c rfl (wl_c rfl (wl_c rfl wl_n))))) rfl (by decide) (ih28979 _ (by omega) (v28980 + 1) H29023 w29027 f29044 ⟨by omega, by omega⟩ (by omega) (_ql) rfl)
                      · exfalso
                        omega
              exact wp_lc (ks := [4, 3, 2, 0, 1]) (wl_c rfl (wl_c rfl (wl_c rfl (wl_c rfl (wl_c rfl wl_n))))) rfl (by decide) (lp28977 _ 0 H28613 w28614 wfr.rf ⟨by decide, by decide⟩ (by omega) (L3_0) rfl)
        exact wp_lc (ks := [3, 2, 0, 1]) (wl_c rfl (wl_c rfl (wl_c rfl (wl_c rfl wl_n)))) rfl (by decide) (lp28609 _ 1 H26438 w26439 wfr.rf ⟨by decide, by decide⟩ (by omega) (J3_1) rfl)
  exact wp_lc (ks := [2, 0, 1]) (wl_c rfl (wl_c rfl (wl_c rfl wl_n))) rfl (by decide) (lp26434 _ 2 H hW wfr.rf ⟨by decide, by decide⟩ (by omega) (I3_2) rfl)
/-! StrikeAwake$Grounds.fewestHours(LStrikeAwake$Parish;LStrikeAwake$Walk;)I  -/
abbrev uq_138 (r0 : Nat) (r1 : Nat) (r2 : Nat) (e : xD) (d : xD) (n : Int) (T : wq_T) (H : wq_H) : Option Value → wq_T → wq_H → Prop := fun r T' H' => T = T' ∧ WT T H' ∧ wfr [(25, 1), (25, 2), (6, 5), (8, 999), (10, 999), (26, 999), (9, 999), (7, 999), (11, 999)] T H H' ∧ ∃ z : Int, some (vI z) = r ∧ ((-2) ≤ z ∧ z ≤ 16777215) ∧ (((XPF (e 13) (XPV e d (xlots d).toNat) z)))
set_option maxHeartbeats 4000000 in
theorem u_138 {kt : Nat → Option mc_E} {T : wq_T} {H : wq_H} {r0 : Nat} {r1 : Nat} {r2 : Nat} {e : xD} {d : xD} {n : Int} (hW : WT T H) (g0 : T.2.2.2 r0 = some 25) (g1 : T.2.2.2 r1 = some 27) (g2 : T.2.2.2 r2 = some 6) (p0 : ∀ i, i ≠ 13 → e i = d i) (p1 : XW d) (p2 : e 0 3 = d 0 3) (p3 : n = xlots d) (p4 : e 0 0 = d 0 0) (p5 : n ≤ 5000) (hCU_r1 : CU T H r1 e d n) : wpc kt 5 138 [.ref r0, .ref r1, .ref r2] T H (uq_138 r0 r1 r2 e d n T H) := by
  refine wp_enter e138 (Nat.le_of_ble_eq_true rfl) rfl ?_
  have f0 : wfr [(25, 1), (25, 2), (6, 5), (8, 999), (10, 999), (26, 999), (9, 999), (7, 999), (11, 999)] T H H := wfr.rf
  show wp _ _ 138 0 [(0, .ref r0), (1, .ref r1), (2, .ref r2)] [] _ H _
  have u1077 := CU_k hCU_r1
  have b1078 : (-9223372036854775808) ≤ H r1 18 ∧ H r1 18 ≤ 9223372036854775807 := hW.box g1 (n := 19) rfl (by decide) rfl
  have _k := CU_k hCU_r1
  have _xc := p1.2.1
  unfold XC at _xc
  have _d0 := p0 0 (by decide)
  have _e3 : e 0 3 = d 0 3 := by rw [_d0]
  have _e4 : e 0 4 = d 0 4 := by rw [_d0]
  have _e5 : e 0 5 = d 0 5 := by rw [_d0]
  have _c18 := hCU_r1.2.2
  have _x0 : 0 ≤ xlots d := (xpr_b hCU_r1.2.1.1 _ _).1
  have _nb := xcn_b (f := xnq d) (xlots d).toNat
  have _o2 := hCU_r1.1.1.2.2.1
  have _e2 : e 0 2 = d 0 2 := by rw [_d0]
  refine wp_of e138 c138_0 (rw_aload_n (pc' := 1) (v := .ref r0) rfl rfl rfl ?_)
  refine wp_of e138 c138_1 (rw_aload_n (pc' := 2) (v := .ref r1) rfl rfl rfl ?_)
  refine wp_of e138 c138_2 (rw_aload_n (pc' := 3) (v := .ref r2) rfl rfl rfl ?_)
  refine wp_of e138 c138_3 (xc_V (pc' := 6) (r := r0) (as := [.ref r1, .ref r2]) (st := []) (lm_6_64) rfl rfl (Nat.le_of_ble_eq_true rfl) hW g0 sh_25 (by decide) rfl (by decide) (u_139 (e := e) (d := d) (n := n) hW g0 g1 g2 (by assumption) (by assumption) (by omega) (by omega) (by omega) (by omega) hCU_r1) (fun R1079 T1080 H1081 p1082 => ?_))
  obtain ⟨e1083, w1085, f1086, e1084, p1087⟩ := p1082
  subst e1083
  subst e1084
  obtain ⟨a1088, a1089⟩ := p1087
  have f1090 := f0.tr f1086 rfl
  show wp _ _ 138 6 [(0, .ref r0), (1, .ref r1), (2, .ref r2)] [] _ H1081 _
  refine wp_of e138 c138_6 (rw_aload_n (pc' := 7) (v := .ref r0) rfl rfl rfl ?_)
  refine wp_of e138 c138_7 (xg_I (pc' := 10) lf_6_68 w1085 g0 sh_25 (by decide) (by decide) ty_25_1 rfl rfl (fun b1091 b1092 => ?_))
  refine wp_of e138 c138_10 (rw_if_ne (p1 := 15) (p2 := 13) (by decide) rfl ⟨Int.le_trans (by decide) b1091, Int.le_trans b1092 (by decide)⟩ (fun c1093 => ?_) (fun c1093 => ?_))
  · have _k0 : ¬ (XPV e d (xlots d).toNat) 0 := XPV_0 (by omega) (by omega)
    refine wp_of e138 c138_15 (rw_aload_n (pc' := 16) (v := .ref r0) rfl rfl rfl ?_)
    refine wp_of e138 c138_16 (rw_aload_n (pc' := 17) (v := .ref r1) rfl rfl rfl ?_)
    have k1094 : H1081 r1 16 = H r1 16 := (f1086 r1 16 _ g1 rfl)
    have h1095 : CU T H1081 r1 e d n := (CU_fr hW g1 f1086 rfl hCU_r1)
    refine wp_of e138 c138_17 (xc_V (pc' := 20) (r := r0) (as := [.ref r1]) (st := []) (lm_6_72) rfl rfl (Nat.le_of_ble_eq_true rfl) w1085 g0 sh_25 (by decide) rfl (by decide) (u_141 (e := e) (d := d) (n := n) w1085 g0 g1 (by assumption) (by assumption) (by omega) (by omega) (by omega) (by omega) h1095 a1089) (fun R1096 T1097 H1098 p1099 => ?_))
    obtain ⟨e1100, w1102, f1103, z1104, e1101, b1105, p1106⟩ := p1099
    subst e1100
    subst e1101
    rcases p1106 with ⟨a1107, a1108⟩ | ⟨a1109, a1110⟩
    · have f1111 := f1090.tr f1103 rfl
      show wp _ _ 138 20 [(0, .ref r0), (1, .ref r1), (2, .ref r2)] [vI z1104] _ H1098 _
      refine wp_of e138 c138_20 (rw_istore_n (pc' := 21) (z := z1104) (L' := [(3, vI z1104), (0, .ref r0), (1, .ref r1), (2, .ref r2)]) rfl rfl rfl ?_)
      refine wp_of e138 c138_21 (rw_iload_n (pc' := 22) (z := z1104) rfl rfl ?_)
      refine wp_of e138 c138_22 (rw_bipush (pc' := 24) (z := -2) rfl (by decide) ?_)
      refine wp_of e138 c138_24 (rw_icmp_ne (p1 := 33) (p2 := 27) (by decide) rfl ⟨b1105.1, b1105.2⟩ ⟨by decide, by decide⟩ (fun c1112 => ?_) (fun c1112 => ?_))
      · refine wp_of e138 c138_33 (rw_iload_n (pc' := 34) (z := z1104) rfl rfl ?_)
        refine wp_of e138 c138_34 (rw_bipush (pc' := 36) (z := -2) rfl (by decide) ?_)
        refine wp_of e138 c138_36 (rw_icmp_ne (p1 := 47) (p2 := 39) (by decide) rfl ⟨b1105.1, b1105.2⟩ ⟨by decide, by decide⟩ (fun c1113 => ?_) (fun c1113 => ?_))
        · refine wp_of e138 c138_47 (rw_iload_n (pc' := 48) (z := z1104) rfl rfl ?_)
          have _z : XPF (e 13) (XPV e d (xlots d).toNat) z1104 := by
            first
            | exact Or.inr (Or.inl ⟨_k0, by assumption⟩)
            | exact Or.inr (Or.inr (Or.inl ⟨_k0, by assumption, by assumption⟩))
            | exact Or.inr (Or.inr (Or.inr (Or.inl ⟨_k0, by assumption, by assumption, by assumption⟩)))
            | exact Or.inr (Or.inr (Or.inr (Or.inr ⟨_k0, by assumption, by assumption, by assumption, by omega⟩)))
          exact wp_ireturn e138 c138_48 rfl ⟨rfl, w1102, f1111, z1104, rfl, ⟨by omega, by omega⟩, (_z)⟩
        · exfalso
          omega
      · exfalso
        omega
    · have f1114 := f1090.tr f1103 rfl
      show wp _ _ 138 20 [(0, .ref r0), (1, .ref r1), (2, .ref r2)] [vI z1104] _ H1098 _
      refine wp_of e138 c138_20 (rw_istore_n (pc' := 21) (z := z1104) (L' := [(3, vI z1104), (0, .ref r0), (1, .ref r1), (2, .ref r2)]) rfl rfl rfl ?_)
      refine wp_of e138 c138_21 (rw_iload_n (pc' := 22) (z := z1104) rfl rfl ?_)
      refine wp_of e138 c138_22 (rw_bipush (pc' := 24) (z := -2) rfl (by decide) ?_)
      refine wp_of e138 c138_24 (rw_icmp_ne (p1 := 33) (p2 := 27) (by decide) rfl ⟨b1105.1, b1105.2⟩ ⟨by decide, by decide⟩ (fun c1115 => ?_) (fun c1115 => ?_))
      · exfalso
        omega
      · refine wp_of e138 c138_27 (rw_aload_n (pc' := 28) (v := .ref r0) rfl rfl rfl ?_)
        refine wp_of e138 c138_28 (rw_aload_n (pc' := 29) (v := .ref r1) rfl rfl rfl ?_)
        have k1116 : H1098 r0 1 = H1081 r0 1 := (f1103 r0 1 _ g0 rfl)
        have k1117 : H1098 r1 16 = H1081 r1 16 := (f1103 r1 16 _ g1 rfl)
        have h1118 : CU T H1098 r1 e d n := (CU_fr w1085 g1 f1103 rfl h1095)
        have h1119 : GF0 T H1098 r0 (xcn (xnq d) (xlots d).toNat) (xgf e d (xlots d).toNat) := (GF0_fr w1085 g0 f1103 rfl a1089)
        refine wp_of e138 c138_29 (xc_V (pc' := 32) (r := r0) (as := [.ref r1]) (st := []) (lm_6_75) rfl rfl (Nat.le_of_ble_eq_true rfl) w1102 g0 sh_25 (by decide) rfl (by decide) (u_144 (e := e) (d := d) (n := n) w1102 g0 g1 (by assumption) (by assumption) (by omega) (by omega) (by omega) (by omega) h1118 h1119) (fun R1120 T1121 H1122 p1123 => ?_))
        obtain ⟨e1124, w1126, f1127, z1128, e1125, b1129, p1130⟩ := p1123
        subst e1124
        subst e1125
        rcases p1130 with ⟨a1131, a1132⟩ | ⟨a1133, a1134⟩
        · have f1135 := f1114.tr f1127 rfl
          show wp _ _ 138 32 [(3, vI z1104), (0, .ref r0), (1, .ref r1), (2, .ref r2)] [vI z1128] _ H1122 _
          refine wp_of e138 c138_32 (rw_istore_n (pc' := 33) (z := z1128) (L' := [(3, vI z1128), (0, .ref r0), (1, .ref r1), (2, .ref r2)]) rfl rfl rfl ?_)
          refine wp_of e138 c138_33 (rw_iload_n (pc' := 34) (z := z1128) rfl rfl ?_)
          refine wp_of e138 c138_34 (rw_bipush (pc' := 36) (z := -2) rfl (by decide) ?_)
          refine wp_of e138 c138_36 (rw_icmp_ne (p1 := 47) (p2 := 39) (by decide) rfl ⟨b1129.1, b1129.2⟩ ⟨by decide, by decide⟩ (fun c1136 => ?_) (fun c1136 => ?_))
          · refine wp_of e138 c138_47 (rw_iload_n (pc' := 48) (z := z1128) rfl rfl ?_)
            have _z : XPF (e 13) (XPV e d (xlots d).toNat) z1128 := by
              first
              | exact Or.inr (Or.inl ⟨_k0, by assumption⟩)
              | exact Or.inr (Or.inr (Or.inl ⟨_k0, by assumption, by assumption⟩))
              | exact Or.inr (Or.inr (Or.inr (Or.inl ⟨_k0, by assumption, by assumption, by assumption⟩)))
              | exact Or.inr (Or.inr (Or.inr (Or.inr ⟨_k0, by assumption, by assumption, by assumption, by omega⟩)))
            exact wp_ireturn e138 c138_48 rfl ⟨rfl, w1126, f1135, z1128, rfl, ⟨by omega, by omega⟩, (_z)⟩
          · exfalso
            omega
        · have f1137 := f1114.tr f1127 rfl
          show wp _ _ 138 32 [(3, vI z1104), (0, .ref r0), (1, .ref r1), (2, .ref r2)] [vI z1128] _ H1122 _
          refine wp_of e138 c138_32 (rw_istore_n (pc' := 33) (z := z1128) (L' := [(3, vI z1128), (0, .ref r0), (1, .ref r1), (2, .ref r2)]) rfl rfl rfl ?_)
          refine wp_of e138 c138_33 (rw_iload_n (pc' := 34) (z := z1128) rfl rfl ?_)
          refine wp_of e138 c138_34 (rw_bipush (pc' := 36) (z := -2) rfl (by decide) ?_)
          refine wp_of e138 c138_36 (rw_icmp_ne (p1 := 47) (p2 := 39) (by decide) rfl ⟨b1129.1, b1129.2⟩ ⟨by decide, by decide⟩ (fun c1138 => ?_) (fun c1138 => ?_))
          · exfalso
            omega
          · refine wp_of e138 c138_39 (rw_aload_n (pc' := 40) (v := .ref r0) rfl rfl rfl ?_)
            refine wp_of e138 c138_40 (rw_aload_n (pc' := 41) (v := .ref r1) rfl rfl rfl ?_)
            have k1139 : H1122 r0 1 = H1098 r0 1 := (f1127 r0 1 _ g0 rfl)
            have k1140 : H1122 r1 16 = H1098 r1 16 := (f1127 r1 16 _ g1 rfl)
            have h1141 : CU T H1122 r1 e d n := (CU_fr w1102 g1 f1127 rfl h1118)
            have h1142 : GF0 T H1122 r0 (xcn (xnq d) (xlots d).toNat) (xgf e d (xlots d).toNat) := (GF0_fr w1102 g0 f1127 rfl h1119)
            refine wp_of e138 c138_41 (xc_V (pc' := 44) (r := r0) (as := [.ref r1]) (st := []) (lm_6_78) rfl rfl (Nat.le_of_ble_eq_true rfl) w1126 g0 sh_25 (by decide) rfl (by decide) (u_145 (e := e) (d := d) (n := n) w1126 g0 g1 (by assumption) (by assumption) (by omega) (by omega) (by omega) (by omega) h1141 h1142) (fun R1143 T1144 H1145 p1146 => ?_))
            obtain ⟨e1147, w1149, f1150, z1151, e1148, b1152, p1153⟩ := p1146
            subst e1147
            subst e1148
            rcases p1153 with ⟨a1154, a1155⟩ | ⟨a1156, a1157⟩
            · have f1158 := f1137.tr f1150 rfl
              show wp _ _ 138 44 [(3, vI z1128), (0, .ref r0), (1, .ref r1), (2, .ref r2)] [vI z1151] _ H1145 _
              refine wp_of e138 c138_44 (rw_goto (p1 := 48) (by decide) ?_)
              have _z : XPF (e 13) (XPV e d (xlots d).toNat) z1151 := by
                first
                | exact Or.inr (Or.inl ⟨_k0, by assumption⟩)
                | exact Or.inr (Or.inr (Or.inl ⟨_k0, by assumption, by assumption⟩))
                | exact Or.inr (Or.inr (Or.inr (Or.inl ⟨_k0, by assumption, by assumption, by assumption⟩)))
                | exact Or.inr (Or.inr (Or.inr (Or.inr ⟨_k0, by assumption, by assumption, by assumption, by omega⟩)))
              exact wp_ireturn e138 c138_48 rfl ⟨rfl, w1149, f1158, z1151, rfl, ⟨by omega, by omega⟩, (_z)⟩
            · have f1159 := f1137.tr f1150 rfl
              show wp _ _ 138 44 [(3, vI z1128), (0, .ref r0), (1, .ref r1), (2, .ref r2)] [vI z1151] _ H1145 _
              refine wp_of e138 c138_44 (rw_goto (p1 := 48) (by decide) ?_)
              have _z : XPF (e 13) (XPV e d (xlots d).toNat) z1151 := by
                first
                | exact Or.inr (Or.inl ⟨_k0, by assumption⟩)
                | exact Or.inr (Or.inr (Or.inl ⟨_k0, by assumption, by assumption⟩))
                | exact Or.inr (Or.inr (Or.inr (Or.inl ⟨_k0, by assumption, by assumption, by assumption⟩)))
                | exact Or.inr (Or.inr (Or.inr (Or.inr ⟨_k0, by assumption, by assumption, by assumption, by omega⟩)))
              exact wp_ireturn e138 c138_48 rfl ⟨rfl, w1149, f1159, z1151, rfl, ⟨by omega, by omega⟩, (_z)⟩
  · have _z : XPF (e 13) (XPV e d (xlots d).toNat) 0 := Or.inl ⟨XPV_none (by omega), rfl⟩
    refine wp_of e138 c138_13 (rw_iconst (pc' := 14) rfl ?_)
    exact wp_ireturn e138 c138_14 rfl ⟨rfl, w1085, f1090, 0, rfl, ⟨by decide, by decide⟩, (_z)⟩
/-! StrikeAwake.barOfWorlds(Z)I  -/
abbrev uq_83 (r0 : Nat) (a1 : Int) (cu : Nat) (wa : Nat) (ce : Nat) (e : xD) (d : xD) (n : Int) (T : wq_T) (H : wq_H) : Option Value → wq_T → wq_H → Prop := fun r T' H' => T = T' ∧ WT T H' ∧ wfr [(12, 5), (12, 6), (12, 7), (12, 8), (12, 9), (6, 5), (8, 999), (10, 999), (15, 999), (9, 999), (18, 999), (19, 999), (7, 999), (11, 999), (17, 999), (13, 999)] T H H' ∧ ∃ z : Int, some (vI z) = r ∧ (0 ≤ z ∧ z ≤ 6) ∧ (((z = 0) ∧ (a1 = 1) ∧ (n ≤ 20000) ∧ CEN T H' ce e d ∧ CEB T H' ce e d (xlots d).toNat ∧ CEX T H' ce e d (xlots d).toNat) ∨ ((1 ≤ z ∧ z ≤ 6) ∧ (a1 = 0 ∨ 20000 < n) ∧ CEN T H' ce e d))
set_option maxHeartbeats 4000000 in
theorem u_83 {kt : Nat → Option mc_E} {T : wq_T} {H : wq_H} {r0 : Nat} {a1 : Int} {cu : Nat} {wa : Nat} {ce : Nat} {e : xD} {d : xD} {n : Int} (hW : WT T H) (g0 : T.2.2.2 r0 = some 1) (i1 : 0 ≤ a1 ∧ a1 ≤ 1) (qcu : H r0 6 = (cu : Int)) (gcu : T.2.2.2 cu = some 27) (qwa : H r0 2 = (wa : Int)) (gwa : T.2.2.2 wa = some 6) (qce : H r0 3 = (ce : Int)) (gce : T.2.2.2 ce = some 12) (p0 : ∀ i, i ≠ 13 → e i = d i) (p1 : XW d) (p2 : e 0 3 = d 0 3) (p3 : e 0 0 = d 0 0) (p4 : a1 = 0 ∨ n = xlots d) (hCU_cu : CU T H cu e d n) (hCEN_ce : CEN T H ce e d) (hHDR_ce : HDR T H ce ) : wpc kt 5 83 [.ref r0, vI a1] T H (uq_83 r0 a1 cu wa ce e d n T H) := by
  refine wp_enter e83 (Nat.le_of_ble_eq_true rfl) rfl ?_
  have f0 : wfr [(12, 5), (12, 6), (12, 7), (12, 8), (12, 9), (6, 5), (8, 999), (10, 999), (15, 999), (9, 999), (18, 999), (19, 999), (7, 999), (11, 999), (17, 999), (13, 999)] T H H := wfr.rf
  show wp _ _ 83 0 [(0, .ref r0), (1, vI a1)] [] _ H _
  have u1032 := CU_k hCU_cu
  refine wp_of e83 c83_0 (rw_aload_n (pc' := 1) (v := .ref r0) rfl rfl rfl ?_)
  refine wp_of e83 c83_1 (rw_iload_n (pc' := 2) (z := a1) rfl rfl ?_)
  refine wp_of e83 c83_2 (xc_V (pc' := 5) (r := r0) (as := [vI a1]) (st := []) (lm_0_245) rfl rfl (Nat.le_of_ble_eq_true rfl) hW g0 sh_1 (by decide) rfl (by decide) (u_84 (e := e) (d := d) (n := n) hW g0 ⟨i1.1, i1.2⟩ qcu gcu hCU_cu) (fun R1033 T1034 H1035 p1036 => ?_))
  obtain ⟨e1037, e1039, z1040, e1038, b1041, p1042⟩ := p1036
  subst e1037
  subst e1038
  subst e1039
  rcases p1042 with ⟨a1043, a1044, a1045⟩ | ⟨a1046, a1047⟩
  · show wp _ _ 83 5 [(0, .ref r0), (1, vI a1)] [vI z1040] _ H _
    refine wp_of e83 c83_5 (rw_istore_n (pc' := 6) (z := z1040) (L' := [(2, vI z1040), (0, .ref r0), (1, vI a1)]) rfl rfl rfl ?_)
    refine wp_of e83 c83_6 (rw_iload_n (pc' := 7) (z := z1040) rfl rfl ?_)
    refine wp_of e83 c83_7 (rw_if_ne (p1 := 25) (p2 := 10) (by decide) rfl ⟨Int.le_trans (by decide) b1041.1, Int.le_trans b1041.2 (by decide)⟩ (fun c1048 => ?_) (fun c1048 => ?_))
    · exfalso
      omega
    · refine wp_of e83 c83_10 (rw_aload_n (pc' := 11) (v := .ref r0) rfl rfl rfl ?_)
      refine wp_of e83 c83_11 (xg_K (pc' := 14) lf_0_30 hW g0 sh_1 (by decide) (by decide) rfl qce rfl ?_)
      refine wp_of e83 c83_14 (rw_aload_n (pc' := 15) (v := .ref r0) rfl rfl rfl ?_)
      refine wp_of e83 c83_15 (xg_K (pc' := 18) lf_0_51 hW g0 sh_1 (by decide) (by decide) rfl qcu rfl ?_)
      refine wp_of e83 c83_18 (rw_aload_n (pc' := 19) (v := .ref r0) rfl rfl rfl ?_)
      refine wp_of e83 c83_19 (xg_K (pc' := 22) lf_0_23 hW g0 sh_1 (by decide) (by decide) rfl qwa rfl ?_)
      refine wp_of e83 c83_22 (xc_V (pc' := 25) (r := ce) (as := [.ref cu, .ref wa]) (st := []) (lm_0_254) rfl rfl (Nat.le_of_ble_eq_true rfl) hW gce sh_12 (by decide) rfl (by decide) (u_85 (e := e) (d := d) (n := n) hW gce gcu gwa (by assumption) (by assumption) (by omega) (by omega) (by omega) (by omega) hCU_cu hCEN_ce hHDR_ce) (fun R1049 T1050 H1051 p1052 => ?_))
      obtain ⟨e1053, w1055, f1056, e1054, p1057⟩ := p1052
      subst e1053
      subst e1054
      obtain ⟨a1058, a1059, a1060, a1061⟩ := p1057
      have f1062 := f0.tr f1056 rfl
      show wp _ _ 83 25 [(2, vI z1040), (0, .ref r0), (1, vI a1)] [] _ H1051 _
      refine wp_of e83 c83_25 (rw_iload_n (pc' := 26) (z := z1040) rfl rfl ?_)
      exact wp_ireturn e83 c83_26 rfl ⟨rfl, w1055, f1062, z1040, rfl, ⟨b1041.1, b1041.2⟩, (Or.inl ⟨by omega, by omega, by omega, a1061, a1059, a1060⟩)⟩
  · show wp _ _ 83 5 [(0, .ref r0), (1, vI a1)] [vI z1040] _ H _
    refine wp_of e83 c83_5 (rw_istore_n (pc' := 6) (z := z1040) (L' := [(2, vI z1040), (0, .ref r0), (1, vI a1)]) rfl rfl rfl ?_)
    refine wp_of e83 c83_6 (rw_iload_n (pc' := 7) (z := z1040) rfl rfl ?_)
    refine wp_of e83 c83_7 (rw_if_ne (p1 := 25) (p2 := 10) (by decide) rfl ⟨Int.le_trans (by decide) b1041.1, Int.le_trans b1041.2 (by decide)⟩ (fun c1063 => ?_) (fun c1063 => ?_))
    · refine wp_of e83 c83_25 (rw_iload_n (pc' := 26) (z := z1040) rfl rfl ?_)
      exact wp_ireturn e83 c83_26 rfl ⟨rfl, hW, f0, z1040, rfl, ⟨b1041.1, b1041.2⟩, (Or.inr ⟨by omega, by omega, hCEN_ce⟩)⟩
    · exfalso
      omega
/-! StrikeAwake.barOfSome(Z)I  -/
abbrev uq_102 (r0 : Nat) (a1 : Int) (cu : Nat) (wa : Nat) (ce : Nat) (e : xD) (d : xD) (n : Int) (T : wq_T) (H : wq_H) : Option Value → wq_T → wq_H → Prop := fun r T' H' => T = T' ∧ WT T H' ∧ wfr [(12, 5), (12, 6), (12, 7), (12, 8), (12, 9), (6, 5), (8, 999), (10, 999), (15, 999), (9, 999), (18, 999), (19, 999), (7, 999), (11, 999), (17, 999), (13, 999)] T H H' ∧ ∃ z : Int, some (vI z) = r ∧ (0 ≤ z ∧ z ≤ 6) ∧ (((z = 0) ∧ (a1 = 1) ∧ (n ≤ 20000) ∧ (0 < xcn (xwf e d) (xlots d).toNat) ∧ CEN T H' ce e d ∧ CEB T H' ce e d (xlots d).toNat ∧ CEX T H' ce e d (xlots d).toNat) ∨ ((1 ≤ z ∧ z ≤ 6) ∧ (a1 = 0 ∨ 20000 < n ∨ xcn (xwf e d) (xlots d).toNat ≤ 0) ∧ CEN T H' ce e d))
set_option maxHeartbeats 4000000 in
theorem u_102 {kt : Nat → Option mc_E} {T : wq_T} {H : wq_H} {r0 : Nat} {a1 : Int} {cu : Nat} {wa : Nat} {ce : Nat} {e : xD} {d : xD} {n : Int} (hW : WT T H) (g0 : T.2.2.2 r0 = some 1) (i1 : 0 ≤ a1 ∧ a1 ≤ 1) (qcu : H r0 6 = (cu : Int)) (gcu : T.2.2.2 cu = some 27) (qwa : H r0 2 = (wa : Int)) (gwa : T.2.2.2 wa = some 6) (qce : H r0 3 = (ce : Int)) (gce : T.2.2.2 ce = some 12) (p0 : ∀ i, i ≠ 13 → e i = d i) (p1 : XW d) (p2 : e 0 3 = d 0 3) (p3 : e 0 0 = d 0 0) (p4 : a1 = 0 ∨ n = xlots d) (hCU_cu : CU T H cu e d n) (hCEN_ce : CEN T H ce e d) (hHDR_ce : HDR T H ce ) : wpc kt 6 102 [.ref r0, vI a1] T H (uq_102 r0 a1 cu wa ce e d n T H) := by
  refine wp_enter e102 (Nat.le_of_ble_eq_true rfl) rfl ?_
  have f0 : wfr [(12, 5), (12, 6), (12, 7), (12, 8), (12, 9), (6, 5), (8, 999), (10, 999), (15, 999), (9, 999), (18, 999), (19, 999), (7, 999), (11, 999), (17, 999), (13, 999)] T H H := wfr.rf
  show wp _ _ 102 0 [(0, .ref r0), (1, vI a1)] [] _ H _
  have u1030 := CU_k hCU_cu
  refine wp_of e102 c102_0 (rw_aload_n (pc' := 1) (v := .ref r0) rfl rfl rfl ?_)
  refine wp_of e102 c102_1 (rw_iload_n (pc' := 2) (z := a1) rfl rfl ?_)
  refine wp_of e102 c102_2 (xc_V (pc' := 5) (r := r0) (as := [vI a1]) (st := []) (lm_0_174) rfl rfl (Nat.le_of_ble_eq_true rfl) hW g0 sh_1 (by decide) rfl (by decide) (u_83 (e := e) (d := d) (n := n) hW g0 ⟨i1.1, i1.2⟩ qcu gcu qwa gwa qce gce (by assumption) (by assumption) (by omega) (by omega) (by omega) hCU_cu hCEN_ce hHDR_ce) (fun R1031 T1032 H1033 p1034 => ?_))
  obtain ⟨e1035, w1037, f1038, z1039, e1036, b1040, p1041⟩ := p1034
  subst e1035
  subst e1036
  rcases p1041 with ⟨a1042, a1043, a1044, a1045, a1046, a1047⟩ | ⟨a1048, a1049, a1050⟩
  · have f1051 := f0.tr f1038 rfl
    show wp _ _ 102 5 [(0, .ref r0), (1, vI a1)] [vI z1039] _ H1033 _
    refine wp_of e102 c102_5 (rw_istore_n (pc' := 6) (z := z1039) (L' := [(2, vI z1039), (0, .ref r0), (1, vI a1)]) rfl rfl rfl ?_)
    refine wp_of e102 c102_6 (rw_iload_n (pc' := 7) (z := z1039) rfl rfl ?_)
    refine wp_of e102 c102_7 (rw_if_ne (p1 := 25) (p2 := 10) (by decide) rfl ⟨Int.le_trans (by decide) b1040.1, Int.le_trans b1040.2 (by decide)⟩ (fun c1052 => ?_) (fun c1052 => ?_))
    · exfalso
      omega
    · have _cbb := a1046
      have _cb := _cbb.1
      have _cb6 := _cbb.2.1
      have _cb8 := _cbb.2.2.1
      have _cb7 := _cbb.2.2.2.1
      have h1053 : CEM T H1033 ce (xwf e d) (xlots d).toNat := _cbb.2.2.2.2
      have _nb := xcn_b (f := xwf e d) (xlots d).toNat
      refine wp_of e102 c102_10 (rw_aload_n (pc' := 11) (v := .ref r0) rfl rfl rfl ?_)
      have k1054 : H1033 r0 3 = H r0 3 := (f1038 r0 3 _ g0 rfl)
      have q1055 : H1033 r0 3 = (ce : Int) := k1054.trans qce
      refine wp_of e102 c102_11 (xg_K (pc' := 14) lf_0_30 w1037 g0 sh_1 (by decide) (by decide) rfl q1055 rfl ?_)
      refine wp_of e102 c102_14 (xg_I (pc' := 17) lf_0_177 w1037 gce sh_12 (by decide) (by decide) ty_12_5 rfl rfl (fun b1056 b1057 => ?_))
      refine wp_of e102 c102_17 (rw_if_ne (p1 := 25) (p2 := 20) (by decide) rfl ⟨b1056, b1057⟩ (fun c1058 => ?_) (fun c1058 => ?_))
      · refine wp_of e102 c102_25 (rw_iload_n (pc' := 26) (z := z1039) rfl rfl ?_)
        exact wp_ireturn e102 c102_26 rfl ⟨rfl, w1037, f1051, z1039, rfl, ⟨b1040.1, b1040.2⟩, (Or.inl ⟨by omega, by omega, by omega, by omega, a1045, a1046, a1047⟩)⟩
      · refine wp_of e102 c102_20 (rw_bipush (pc' := 22) (z := 6) rfl (by decide) ?_)
        refine wp_of e102 c102_22 (rw_goto (p1 := 26) (by decide) ?_)
        exact wp_ireturn e102 c102_26 rfl ⟨rfl, w1037, f1051, 6, rfl, ⟨by decide, by decide⟩, (Or.inr ⟨by omega, by omega, a1045⟩)⟩
  · have f1059 := f0.tr f1038 rfl
    show wp _ _ 102 5 [(0, .ref r0), (1, vI a1)] [vI z1039] _ H1033 _
    refine wp_of e102 c102_5 (rw_istore_n (pc' := 6) (z := z1039) (L' := [(2, vI z1039), (0, .ref r0), (1, vI a1)]) rfl rfl rfl ?_)
    refine wp_of e102 c102_6 (rw_iload_n (pc' := 7) (z := z1039) rfl rfl ?_)
    refine wp_of e102 c102_7 (rw_if_ne (p1 := 25) (p2 := 10) (by decide) rfl ⟨Int.le_trans (by decide) b1040.1, Int.le_trans b1040.2 (by decide)⟩ (fun c1060 => ?_) (fun c1060 => ?_))
    · refine wp_of e102 c102_25 (rw_iload_n (pc' := 26) (z := z1039) rfl rfl ?_)
      exact wp_ireturn e102 c102_26 rfl ⟨rfl, w1037, f1059, z1039, rfl, ⟨b1040.1, b1040.2⟩, (Or.inr ⟨by omega, by omega, a1050⟩)⟩
    · exfalso
      omega
/-! StrikeAwake.barOfAsking(Z)I  -/
abbrev uq_121 (r0 : Nat) (a1 : Int) (cu : Nat) (wa : Nat) (ce : Nat) (e : xD) (d : xD) (n : Int) (T : wq_T) (H : wq_H) : Option Value → wq_T → wq_H → Prop := fun r T' H' => T = T' ∧ WT T H' ∧ wfr [(12, 5), (12, 6), (12, 7), (12, 8), (12, 9), (6, 5), (8, 999), (10, 999), (15, 999), (9, 999), (18, 999), (19, 999), (7, 999), (11, 999), (17, 999), (13, 999)] T H H' ∧ ∃ z : Int, some (vI z) = r ∧ (0 ≤ z ∧ z ≤ 6) ∧ (((z = 0) ∧ (a1 = 1) ∧ CEN T H' ce e d) ∨ ((1 ≤ z ∧ z ≤ 6) ∧ CEN T H' ce e d))
set_option maxHeartbeats 4000000 in
theorem u_121 {kt : Nat → Option mc_E} {T : wq_T} {H : wq_H} {r0 : Nat} {a1 : Int} {cu : Nat} {wa : Nat} {ce : Nat} {e : xD} {d : xD} {n : Int} (hW : WT T H) (g0 : T.2.2.2 r0 = some 1) (i1 : 0 ≤ a1 ∧ a1 ≤ 1) (qcu : H r0 6 = (cu : Int)) (gcu : T.2.2.2 cu = some 27) (qwa : H r0 2 = (wa : Int)) (gwa : T.2.2.2 wa = some 6) (qce : H r0 3 = (ce : Int)) (gce : T.2.2.2 ce = some 12) (p0 : ∀ i, i ≠ 13 → e i = d i) (p1 : XW d) (p2 : e 0 3 = d 0 3) (p3 : e 0 0 = d 0 0) (p4 : a1 = 0 ∨ n = xlots d) (hCU_cu : CU T H cu e d n) (hCEN_ce : CEN T H ce e d) (hHDR_ce : HDR T H ce ) : wpc kt 6 121 [.ref r0, vI a1] T H (uq_121 r0 a1 cu wa ce e d n T H) := by
  refine wp_enter e121 (Nat.le_of_ble_eq_true rfl) rfl ?_
  have f0 : wfr [(12, 5), (12, 6), (12, 7), (12, 8), (12, 9), (6, 5), (8, 999), (10, 999), (15, 999), (9, 999), (18, 999), (19, 999), (7, 999), (11, 999), (17, 999), (13, 999)] T H H := wfr.rf
  show wp _ _ 121 0 [(0, .ref r0), (1, vI a1)] [] _ H _
  have u1033 := CU_k hCU_cu
  refine wp_of e121 c121_0 (rw_aload_n (pc' := 1) (v := .ref r0) rfl rfl rfl ?_)
  refine wp_of e121 c121_1 (rw_iload_n (pc' := 2) (z := a1) rfl rfl ?_)
  refine wp_of e121 c121_2 (xc_V (pc' := 5) (r := r0) (as := [vI a1]) (st := []) (lm_0_174) rfl rfl (Nat.le_of_ble_eq_true rfl) hW g0 sh_1 (by decide) rfl (by decide) (u_83 (e := e) (d := d) (n := n) hW g0 ⟨i1.1, i1.2⟩ qcu gcu qwa gwa qce gce (by assumption) (by assumption) (by omega) (by omega) (by omega) hCU_cu hCEN_ce hHDR_ce) (fun R1034 T1035 H1036 p1037 => ?_))
  obtain ⟨e1038, w1040, f1041, z1042, e1039, b1043, p1044⟩ := p1037
  subst e1038
  subst e1039
  rcases p1044 with ⟨a1045, a1046, a1047, a1048, a1049, a1050⟩ | ⟨a1051, a1052, a1053⟩
  · have f1054 := f0.tr f1041 rfl
    show wp _ _ 121 5 [(0, .ref r0), (1, vI a1)] [vI z1042] _ H1036 _
    refine wp_of e121 c121_5 (rw_istore_n (pc' := 6) (z := z1042) (L' := [(2, vI z1042), (0, .ref r0), (1, vI a1)]) rfl rfl rfl ?_)
    refine wp_of e121 c121_6 (rw_iload_n (pc' := 7) (z := z1042) rfl rfl ?_)
    refine wp_of e121 c121_7 (rw_if_eq (p1 := 12) (p2 := 10) (by decide) rfl ⟨Int.le_trans (by decide) b1043.1, Int.le_trans b1043.2 (by decide)⟩ (fun c1055 => ?_) (fun c1055 => ?_))
    · refine wp_of e121 c121_12 (rw_aload_n (pc' := 13) (v := .ref r0) rfl rfl rfl ?_)
      have k1056 : H1036 r0 3 = H r0 3 := (f1041 r0 3 _ g0 rfl)
      have q1057 : H1036 r0 3 = (ce : Int) := k1056.trans qce
      refine wp_of e121 c121_13 (xg_K (pc' := 16) lf_0_30 w1040 g0 sh_1 (by decide) (by decide) rfl q1057 rfl ?_)
      refine wp_of e121 c121_16 (xg_I (pc' := 19) lf_0_177 w1040 gce sh_12 (by decide) (by decide) ty_12_5 rfl rfl (fun b1058 b1059 => ?_))
      refine wp_of e121 c121_19 (rw_sipush (pc' := 22) (z := 400) rfl (by decide) ?_)
      refine wp_of e121 c121_22 (rw_icmp_le (p1 := 27) (p2 := 25) (by decide) rfl ⟨b1058, b1059⟩ ⟨by decide, by decide⟩ (fun c1060 => ?_) (fun c1060 => ?_))
      · refine wp_of e121 c121_27 (rw_aload_n (pc' := 28) (v := .ref r0) rfl rfl rfl ?_)
        refine wp_of e121 c121_28 (xg_K (pc' := 31) lf_0_30 w1040 g0 sh_1 (by decide) (by decide) rfl q1057 rfl ?_)
        refine wp_of e121 c121_31 (xg_I (pc' := 34) lf_0_177 w1040 gce sh_12 (by decide) (by decide) ty_12_5 rfl rfl (fun b1061 b1062 => ?_))
        refine wp_of e121 c121_34 (rw_if_ne (p1 := 42) (p2 := 37) (by decide) rfl ⟨b1061, b1062⟩ (fun c1063 => ?_) (fun c1063 => ?_))
        · refine wp_of e121 c121_42 (rw_iconst (pc' := 43) rfl ?_)
          exact wp_ireturn e121 c121_43 rfl ⟨rfl, w1040, f1054, 0, rfl, ⟨by decide, by decide⟩, (Or.inl ⟨by omega, by omega, a1048⟩)⟩
        · refine wp_of e121 c121_37 (rw_bipush (pc' := 39) (z := 6) rfl (by decide) ?_)
          refine wp_of e121 c121_39 (rw_goto (p1 := 43) (by decide) ?_)
          exact wp_ireturn e121 c121_43 rfl ⟨rfl, w1040, f1054, 6, rfl, ⟨by decide, by decide⟩, (Or.inr ⟨by omega, a1048⟩)⟩
      · refine wp_of e121 c121_25 (rw_iconst (pc' := 26) rfl ?_)
        exact wp_ireturn e121 c121_26 rfl ⟨rfl, w1040, f1054, 3, rfl, ⟨by decide, by decide⟩, (Or.inr ⟨by omega, a1048⟩)⟩
    · exfalso
      omega
  · have f1064 := f0.tr f1041 rfl
    show wp _ _ 121 5 [(0, .ref r0), (1, vI a1)] [vI z1042] _ H1036 _
    refine wp_of e121 c121_5 (rw_istore_n (pc' := 6) (z := z1042) (L' := [(2, vI z1042), (0, .ref r0), (1, vI a1)]) rfl rfl rfl ?_)
    refine wp_of e121 c121_6 (rw_iload_n (pc' := 7) (z := z1042) rfl rfl ?_)
    refine wp_of e121 c121_7 (rw_if_eq (p1 := 12) (p2 := 10) (by decide) rfl ⟨Int.le_trans (by decide) b1043.1, Int.le_trans b1043.2 (by decide)⟩ (fun c1065 => ?_) (fun c1065 => ?_))
    · exfalso
      omega
    · refine wp_of e121 c121_10 (rw_iload_n (pc' := 11) (z := z1042) rfl rfl ?_)
      exact wp_ireturn e121 c121_11 rfl ⟨rfl, w1040, f1064, z1042, rfl, ⟨b1043.1, b1043.2⟩, (Or.inr ⟨by omega, a1053⟩)⟩
/-! StrikeAwake.worlds()I  -/
abbrev uq_82 (r0 : Nat) (cu : Nat) (wa : Nat) (ce : Nat) (e : xD) (d : xD) (n : Int) (T : wq_T) (H : wq_H) : Option Value → wq_T → wq_H → Prop := fun r T' H' => T = T' ∧ WT T H' ∧ wfr [(12, 5), (12, 6), (12, 7), (12, 8), (12, 9), (1, 10), (6, 5), (8, 999), (10, 999), (15, 999), (9, 999), (18, 999), (19, 999), (7, 999), (11, 999), (17, 999), (13, 999)] T H H' ∧ ∃ z : Int, some (vI z) = r ∧ ((-2147483648) ≤ z ∧ z ≤ 2147483647) ∧ (((z = -1) ∧ (H r0 8 = 0 ∨ 20000 < n) ∧ CEN T H' ce e d) ∨ ((H r0 8 ≠ 0 ∧ n ≤ 20000) ∧ (z = xcn (xwf e d) (xlots d).toNat) ∧ CEN T H' ce e d))
set_option maxHeartbeats 4000000 in
theorem u_82 {kt : Nat → Option mc_E} {T : wq_T} {H : wq_H} {r0 : Nat} {cu : Nat} {wa : Nat} {ce : Nat} {e : xD} {d : xD} {n : Int} (hW : WT T H) (g0 : T.2.2.2 r0 = some 1) (qcu : H r0 6 = (cu : Int)) (gcu : T.2.2.2 cu = some 27) (qwa : H r0 2 = (wa : Int)) (gwa : T.2.2.2 wa = some 6) (qce : H r0 3 = (ce : Int)) (gce : T.2.2.2 ce = some 12) (p0 : ∀ i, i ≠ 13 → e i = d i) (p1 : XW d) (p2 : e 0 3 = d 0 3) (p3 : e 0 0 = d 0 0) (p4 : H r0 8 = 0 ∨ n = xlots d) (p5 : H r0 8 ≠ 0 ∨ (d 0 3 = 0 ∧ d 0 0 = 0)) (hCU_cu : CU T H cu e d n) (hCEN_ce : CEN T H ce e d) (hHDR_ce : HDR T H ce ) : wpc kt 6 82 [.ref r0] T H (uq_82 r0 cu wa ce e d n T H) := by
  refine wp_enter e82 (Nat.le_of_ble_eq_true rfl) rfl ?_
  have f0 : wfr [(12, 5), (12, 6), (12, 7), (12, 8), (12, 9), (1, 10), (6, 5), (8, 999), (10, 999), (15, 999), (9, 999), (18, 999), (19, 999), (7, 999), (11, 999), (17, 999), (13, 999)] T H H := wfr.rf
  show wp _ _ 82 0 [(0, .ref r0)] [] _ H _
  have u1059 := CU_k hCU_cu
  have b1060 : 0 ≤ H r0 8 ∧ H r0 8 ≤ 1 := hW.box g0 (n := 13) rfl (by decide) rfl
  have _c7 : d 0 0 ≤ 24 := p1.2.1.2.1
  refine wp_of e82 c82_0 (rw_aload_n (pc' := 1) (v := .ref r0) rfl rfl rfl ?_)
  refine wp_of e82 c82_1 (rw_aload_n (pc' := 2) (v := .ref r0) rfl rfl rfl ?_)
  refine wp_of e82 c82_2 (xg_I (pc' := 5) lf_0_58 hW g0 sh_1 (by decide) (by decide) ty_1_8 rfl rfl (fun b1061 b1062 => ?_))
  refine wp_of e82 c82_5 (xc_V (pc' := 8) (r := r0) (as := [vI (H r0 8)]) (st := []) (lm_0_174) rfl rfl (Nat.le_of_ble_eq_true rfl) hW g0 sh_1 (by decide) rfl (by decide) (u_83 (e := e) (d := d) (n := n) hW g0 ⟨b1061, b1062⟩ qcu gcu qwa gwa qce gce (by assumption) (by assumption) (by omega) (by omega) (by omega) hCU_cu hCEN_ce hHDR_ce) (fun R1063 T1064 H1065 p1066 => ?_))
  obtain ⟨e1067, w1069, f1070, z1071, e1068, b1072, p1073⟩ := p1066
  subst e1067
  subst e1068
  rcases p1073 with ⟨a1074, a1075, a1076, a1077, a1078, a1079⟩ | ⟨a1080, a1081, a1082⟩
  · have f1083 := f0.tr f1070 rfl
    show wp _ _ 82 8 [(0, .ref r0)] [vI z1071] _ H1065 _
    refine wp_of e82 c82_8 (rw_istore_n (pc' := 9) (z := z1071) (L' := [(1, vI z1071), (0, .ref r0)]) rfl rfl rfl ?_)
    refine wp_of e82 c82_9 (rw_iload_n (pc' := 10) (z := z1071) rfl rfl ?_)
    refine wp_of e82 c82_10 (rw_if_eq (p1 := 19) (p2 := 13) (by decide) rfl ⟨Int.le_trans (by decide) b1072.1, Int.le_trans b1072.2 (by decide)⟩ (fun c1084 => ?_) (fun c1084 => ?_))
    · have _cb := (a1078).1
      refine wp_of e82 c82_19 (rw_aload_n (pc' := 20) (v := .ref r0) rfl rfl rfl ?_)
      refine wp_of e82 c82_20 (rw_aload_n (pc' := 21) (v := .ref r0) rfl rfl rfl ?_)
      have k1085 : H1065 r0 3 = H r0 3 := (f1070 r0 3 _ g0 rfl)
      have q1086 : H1065 r0 3 = (ce : Int) := k1085.trans qce
      refine wp_of e82 c82_21 (xg_K (pc' := 24) lf_0_30 w1069 g0 sh_1 (by decide) (by decide) rfl q1086 rfl ?_)
      refine wp_of e82 c82_24 (xg_I (pc' := 27) lf_0_177 w1069 gce sh_12 (by decide) (by decide) ty_12_5 rfl rfl (fun b1087 b1088 => ?_))
      refine wp_of e82 c82_27 (xc_V (pc' := 30) (r := r0) (as := [vI (H1065 ce 5)]) (st := []) (lm_0_99) rfl rfl (Nat.le_of_ble_eq_true rfl) w1069 g0 sh_1 (by decide) rfl (by decide) (u_51  w1069 g0 ⟨b1087, b1088⟩) (fun R1089 T1090 H1091 p1092 => ?_))
      obtain ⟨e1093, w1095, f1096, z1097, e1094, b1098, p1099⟩ := p1092
      subst e1093
      subst e1094
      obtain ⟨a1100, a1101⟩ := p1099
      have f1102 := f1083.tr f1096 rfl
      show wp _ _ 82 30 [(1, vI z1071), (0, .ref r0)] [vI z1097] _ H1091 _
      have h1103 : CEN T H1091 ce e d := (CEN_fr w1069 gce f1096 rfl a1077)
      exact wp_ireturn e82 c82_30 rfl ⟨rfl, w1095, f1102, z1097, rfl, ⟨b1098.1, b1098.2⟩, (Or.inr ⟨by omega, by omega, h1103⟩)⟩
    · exfalso
      omega
  · have f1104 := f0.tr f1070 rfl
    show wp _ _ 82 8 [(0, .ref r0)] [vI z1071] _ H1065 _
    refine wp_of e82 c82_8 (rw_istore_n (pc' := 9) (z := z1071) (L' := [(1, vI z1071), (0, .ref r0)]) rfl rfl rfl ?_)
    refine wp_of e82 c82_9 (rw_iload_n (pc' := 10) (z := z1071) rfl rfl ?_)
    refine wp_of e82 c82_10 (rw_if_eq (p1 := 19) (p2 := 13) (by decide) rfl ⟨Int.le_trans (by decide) b1072.1, Int.le_trans b1072.2 (by decide)⟩ (fun c1105 => ?_) (fun c1105 => ?_))
    · exfalso
      omega
    · refine wp_of e82 c82_13 (rw_aload_n (pc' := 14) (v := .ref r0) rfl rfl rfl ?_)
      refine wp_of e82 c82_14 (rw_iload_n (pc' := 15) (z := z1071) rfl rfl ?_)
      refine wp_of e82 c82_15 (xc_V (pc' := 18) (r := r0) (as := [vI z1071]) (st := []) (lm_0_70) rfl rfl (Nat.le_of_ble_eq_true rfl) w1069 g0 sh_1 (by decide) rfl (by decide) (u_12  w1069 g0 ⟨Int.le_trans (by decide) b1072.1, Int.le_trans b1072.2 (by decide)⟩) (fun R1106 T1107 H1108 p1109 => ?_))
      obtain ⟨e1110, w1112, f1113, z1114, e1111, b1115, p1116⟩ := p1109
      subst e1110
      subst e1111
      obtain ⟨a1117, a1118⟩ := p1116
      have f1119 := f1104.tr f1113 rfl
      show wp _ _ 82 18 [(1, vI z1071), (0, .ref r0)] [vI z1114] _ H1108 _
      have h1120 : CEN T H1108 ce e d := (CEN_fr w1069 gce f1113 rfl a1082)
      exact wp_ireturn e82 c82_18 rfl ⟨rfl, w1112, f1119, z1114, rfl, ⟨b1115.1, b1115.2⟩, (Or.inl ⟨by omega, by omega, h1120⟩)⟩
/-! StrikeAwake.can()I  -/
abbrev uq_92 (r0 : Nat) (cu : Nat) (wa : Nat) (ce : Nat) (e : xD) (d : xD) (n : Int) (T : wq_T) (H : wq_H) : Option Value → wq_T → wq_H → Prop := fun r T' H' => T = T' ∧ WT T H' ∧ wfr [(12, 5), (12, 6), (12, 7), (12, 8), (12, 9), (1, 10), (6, 5), (8, 999), (10, 999), (15, 999), (9, 999), (18, 999), (19, 999), (7, 999), (11, 999), (17, 999), (13, 999)] T H H' ∧ ∃ z : Int, some (vI z) = r ∧ ((-2147483648) ≤ z ∧ z ≤ 2147483647) ∧ (((z = -1) ∧ (H r0 8 = 0 ∨ 20000 < n) ∧ CEN T H' ce e d) ∨ ((0 ≤ z ∧ z ≤ 1) ∧ (H r0 8 ≠ 0 ∧ n ≤ 20000) ∧ ((z = 1 ∧ 0 < xcn (xwf e d) (xlots d).toNat) ∨ (z = 0 ∧ xcn (xwf e d) (xlots d).toNat ≤ 0)) ∧ CEN T H' ce e d))
set_option maxHeartbeats 4000000 in
theorem u_92 {kt : Nat → Option mc_E} {T : wq_T} {H : wq_H} {r0 : Nat} {cu : Nat} {wa : Nat} {ce : Nat} {e : xD} {d : xD} {n : Int} (hW : WT T H) (g0 : T.2.2.2 r0 = some 1) (qcu : H r0 6 = (cu : Int)) (gcu : T.2.2.2 cu = some 27) (qwa : H r0 2 = (wa : Int)) (gwa : T.2.2.2 wa = some 6) (qce : H r0 3 = (ce : Int)) (gce : T.2.2.2 ce = some 12) (p0 : ∀ i, i ≠ 13 → e i = d i) (p1 : XW d) (p2 : e 0 3 = d 0 3) (p3 : e 0 0 = d 0 0) (p4 : H r0 8 = 0 ∨ n = xlots d) (p5 : H r0 8 ≠ 0 ∨ (d 0 3 = 0 ∧ d 0 0 = 0)) (hCU_cu : CU T H cu e d n) (hCEN_ce : CEN T H ce e d) (hHDR_ce : HDR T H ce ) : wpc kt 6 92 [.ref r0] T H (uq_92 r0 cu wa ce e d n T H) := by
  refine wp_enter e92 (Nat.le_of_ble_eq_true rfl) rfl ?_
  have f0 : wfr [(12, 5), (12, 6), (12, 7), (12, 8), (12, 9), (1, 10), (6, 5), (8, 999), (10, 999), (15, 999), (9, 999), (18, 999), (19, 999), (7, 999), (11, 999), (17, 999), (13, 999)] T H H := wfr.rf
  show wp _ _ 92 0 [(0, .ref r0)] [] _ H _
  have u1074 := CU_k hCU_cu
  have b1075 : 0 ≤ H r0 8 ∧ H r0 8 ≤ 1 := hW.box g0 (n := 13) rfl (by decide) rfl
  have _c7 : d 0 0 ≤ 24 := p1.2.1.2.1
  refine wp_of e92 c92_0 (rw_aload_n (pc' := 1) (v := .ref r0) rfl rfl rfl ?_)
  refine wp_of e92 c92_1 (rw_aload_n (pc' := 2) (v := .ref r0) rfl rfl rfl ?_)
  refine wp_of e92 c92_2 (xg_I (pc' := 5) lf_0_58 hW g0 sh_1 (by decide) (by decide) ty_1_8 rfl rfl (fun b1076 b1077 => ?_))
  refine wp_of e92 c92_5 (xc_V (pc' := 8) (r := r0) (as := [vI (H r0 8)]) (st := []) (lm_0_174) rfl rfl (Nat.le_of_ble_eq_true rfl) hW g0 sh_1 (by decide) rfl (by decide) (u_83 (e := e) (d := d) (n := n) hW g0 ⟨b1076, b1077⟩ qcu gcu qwa gwa qce gce (by assumption) (by assumption) (by omega) (by omega) (by omega) hCU_cu hCEN_ce hHDR_ce) (fun R1078 T1079 H1080 p1081 => ?_))
  obtain ⟨e1082, w1084, f1085, z1086, e1083, b1087, p1088⟩ := p1081
  subst e1082
  subst e1083
  rcases p1088 with ⟨a1089, a1090, a1091, a1092, a1093, a1094⟩ | ⟨a1095, a1096, a1097⟩
  · have f1098 := f0.tr f1085 rfl
    show wp _ _ 92 8 [(0, .ref r0)] [vI z1086] _ H1080 _
    refine wp_of e92 c92_8 (rw_istore_n (pc' := 9) (z := z1086) (L' := [(1, vI z1086), (0, .ref r0)]) rfl rfl rfl ?_)
    refine wp_of e92 c92_9 (rw_iload_n (pc' := 10) (z := z1086) rfl rfl ?_)
    refine wp_of e92 c92_10 (rw_if_eq (p1 := 19) (p2 := 13) (by decide) rfl ⟨Int.le_trans (by decide) b1087.1, Int.le_trans b1087.2 (by decide)⟩ (fun c1099 => ?_) (fun c1099 => ?_))
    · have _cb := (a1093).1
      refine wp_of e92 c92_19 (rw_aload_n (pc' := 20) (v := .ref r0) rfl rfl rfl ?_)
      refine wp_of e92 c92_20 (rw_aload_n (pc' := 21) (v := .ref r0) rfl rfl rfl ?_)
      have k1100 : H1080 r0 3 = H r0 3 := (f1085 r0 3 _ g0 rfl)
      have q1101 : H1080 r0 3 = (ce : Int) := k1100.trans qce
      refine wp_of e92 c92_21 (xg_K (pc' := 24) lf_0_30 w1084 g0 sh_1 (by decide) (by decide) rfl q1101 rfl ?_)
      refine wp_of e92 c92_24 (xg_I (pc' := 27) lf_0_177 w1084 gce sh_12 (by decide) (by decide) ty_12_5 rfl rfl (fun b1102 b1103 => ?_))
      refine wp_of e92 c92_27 (rw_if_le (p1 := 34) (p2 := 30) (by decide) rfl ⟨b1102, b1103⟩ (fun c1104 => ?_) (fun c1104 => ?_))
      · refine wp_of e92 c92_34 (rw_iconst (pc' := 35) rfl ?_)
        refine wp_of e92 c92_35 (xc_V (pc' := 38) (r := r0) (as := [vI 0]) (st := []) (lm_0_99) rfl rfl (Nat.le_of_ble_eq_true rfl) w1084 g0 sh_1 (by decide) rfl (by decide) (u_51  w1084 g0 ⟨by decide, by decide⟩) (fun R1105 T1106 H1107 p1108 => ?_))
        obtain ⟨e1109, w1111, f1112, z1113, e1110, b1114, p1115⟩ := p1108
        subst e1109
        subst e1110
        obtain ⟨a1116, a1117⟩ := p1115
        have f1118 := f1098.tr f1112 rfl
        show wp _ _ 92 38 [(1, vI z1086), (0, .ref r0)] [vI z1113] _ H1107 _
        have h1119 : CEN T H1107 ce e d := (CEN_fr w1084 gce f1112 rfl a1092)
        exact wp_ireturn e92 c92_38 rfl ⟨rfl, w1111, f1118, z1113, rfl, ⟨b1114.1, b1114.2⟩, (Or.inr ⟨by omega, by omega, by omega, h1119⟩)⟩
      · refine wp_of e92 c92_30 (rw_iconst (pc' := 31) rfl ?_)
        refine wp_of e92 c92_31 (rw_goto (p1 := 35) (by decide) ?_)
        refine wp_of e92 c92_35 (xc_V (pc' := 38) (r := r0) (as := [vI 1]) (st := []) (lm_0_99) rfl rfl (Nat.le_of_ble_eq_true rfl) w1084 g0 sh_1 (by decide) rfl (by decide) (u_51  w1084 g0 ⟨by decide, by decide⟩) (fun R1120 T1121 H1122 p1123 => ?_))
        obtain ⟨e1124, w1126, f1127, z1128, e1125, b1129, p1130⟩ := p1123
        subst e1124
        subst e1125
        obtain ⟨a1131, a1132⟩ := p1130
        have f1133 := f1098.tr f1127 rfl
        show wp _ _ 92 38 [(1, vI z1086), (0, .ref r0)] [vI z1128] _ H1122 _
        have h1134 : CEN T H1122 ce e d := (CEN_fr w1084 gce f1127 rfl a1092)
        exact wp_ireturn e92 c92_38 rfl ⟨rfl, w1126, f1133, z1128, rfl, ⟨b1129.1, b1129.2⟩, (Or.inr ⟨by omega, by omega, by omega, h1134⟩)⟩
    · exfalso
      omega
  · have f1135 := f0.tr f1085 rfl
    show wp _ _ 92 8 [(0, .ref r0)] [vI z1086] _ H1080 _
    refine wp_of e92 c92_8 (rw_istore_n (pc' := 9) (z := z1086) (L' := [(1, vI z1086), (0, .ref r0)]) rfl rfl rfl ?_)
    refine wp_of e92 c92_9 (rw_iload_n (pc' := 10) (z := z1086) rfl rfl ?_)
    refine wp_of e92 c92_10 (rw_if_eq (p1 := 19) (p2 := 13) (by decide) rfl ⟨Int.le_trans (by decide) b1087.1, Int.le_trans b1087.2 (by decide)⟩ (fun c1136 => ?_) (fun c1136 => ?_))
    · exfalso
      omega
    · refine wp_of e92 c92_13 (rw_aload_n (pc' := 14) (v := .ref r0) rfl rfl rfl ?_)
      refine wp_of e92 c92_14 (rw_iload_n (pc' := 15) (z := z1086) rfl rfl ?_)
      refine wp_of e92 c92_15 (xc_V (pc' := 18) (r := r0) (as := [vI z1086]) (st := []) (lm_0_70) rfl rfl (Nat.le_of_ble_eq_true rfl) w1084 g0 sh_1 (by decide) rfl (by decide) (u_12  w1084 g0 ⟨Int.le_trans (by decide) b1087.1, Int.le_trans b1087.2 (by decide)⟩) (fun R1137 T1138 H1139 p1140 => ?_))
      obtain ⟨e1141, w1143, f1144, z1145, e1142, b1146, p1147⟩ := p1140
      subst e1141
      subst e1142
      obtain ⟨a1148, a1149⟩ := p1147
      have f1150 := f1135.tr f1144 rfl
      show wp _ _ 92 18 [(1, vI z1086), (0, .ref r0)] [vI z1145] _ H1139 _
      have h1151 : CEN T H1139 ce e d := (CEN_fr w1084 gce f1144 rfl a1097)
      exact wp_ireturn e92 c92_18 rfl ⟨rfl, w1143, f1150, z1145, rfl, ⟨b1146.1, b1146.2⟩, (Or.inl ⟨by omega, by omega, h1151⟩)⟩
