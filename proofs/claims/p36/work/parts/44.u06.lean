/-! what methods do (own work, written by wip/gen3/sx3.py) -/
/-! StrikeAwake$Reader.reads([BILStrikeAwake$Parish;)Z  -/
abbrev uq_13 (r0 : Nat) (r1 : Nat) (a2 : Int) (r3 : Nat) (tk : Nat) (B : Nat → Int) (T : wq_T) (H : wq_H) : Option Value → wq_T → wq_H → Prop := fun r T' H' => T = T' ∧ WT T H' ∧ wfr [(27, 7), (27, 8), (27, 9), (27, 10), (27, 11), (27, 12), (27, 13), (27, 14), (27, 15), (27, 16), (27, 17), (27, 18), (35, 6), (35, 7), (35, 8), (35, 9), (35, 10), (35, 11), (35, 12), (35, 13), (35, 14), (35, 15), (35, 16), (35, 17), (3, 1), (3, 2), (3, 3), (3, 4), (4, 0), (4, 1), (4, 2), (4, 3), (4, 4), (4, 5), (4, 6), (31, 999), (34, 999), (29, 999), (30, 999), (33, 999), (32, 999)] T H H' ∧ ∃ z : Int, some (vI z) = r ∧ (0 ≤ z ∧ z ≤ 1) ∧ (((z = 1) ∧ (((xparse B a2).1).1 = 0) ∧ (H' r0 3 = 0) ∧ DC T H' r3 ((xparse B a2).2) ∧ CZ T H' r3 ((xparse B a2).2 0 3)) ∨ ((z = 0) ∧ (((xparse B a2).1).1 ≠ 0) ∧ (H' r0 3 = ((xparse B a2).1).1) ∧ (H' r0 4 = ((xparse B a2).1).2.1)))
set_option maxHeartbeats 4000000 in
theorem u_13 {kt : Nat → Option mc_E} {T : wq_T} {H : wq_H} {r0 : Nat} {r1 : Nat} {a2 : Int} {r3 : Nat} {tk : Nat} {B : Nat → Int} (hW : WT T H) (g0 : T.2.2.2 r0 = some 3) (g1 : T.2.2.2 r1 = some 2) (i2 : 0 ≤ a2 ∧ a2 ≤ 900) (g3 : T.2.2.2 r3 = some 27) (qtk : H r0 0 = (tk : Int)) (gtk : T.2.2.2 tk = some 4) (hTP_r1 : TP T H r1 B) (hDD_r3 : DD T H r3 ) : wpc kt 7 13 [.ref r0, .ref r1, vI a2, .ref r3] T H (uq_13 r0 r1 a2 r3 tk B T H) := by
  refine wp_enter e13 (Nat.le_of_ble_eq_true rfl) rfl ?_
  have f0 : wfr [(27, 7), (27, 8), (27, 9), (27, 10), (27, 11), (27, 12), (27, 13), (27, 14), (27, 15), (27, 16), (27, 17), (27, 18), (35, 6), (35, 7), (35, 8), (35, 9), (35, 10), (35, 11), (35, 12), (35, 13), (35, 14), (35, 15), (35, 16), (35, 17), (3, 1), (3, 2), (3, 3), (3, 4), (4, 0), (4, 1), (4, 2), (4, 3), (4, 4), (4, 5), (4, 6), (31, 999), (34, 999), (29, 999), (30, 999), (33, 999), (32, 999)] T H H := wfr.rf
  show wp _ _ 13 0 [(0, .ref r0), (1, .ref r1), (2, vI a2), (3, .ref r3)] [] _ H _
  refine wp_of e13 c13_0 (rw_aload_n (pc' := 1) (v := .ref r0) rfl rfl rfl ?_)
  refine wp_of e13 c13_1 (rw_iconst (pc' := 2) rfl ?_)
  refine wp_of e13 c13_2 (xp_I (pc' := 5) lf_1_18 hW g0 sh_3 (by decide) (by decide) ty_3_3 rfl rfl (by decide) (by decide) ⟨by decide, by decide⟩ rfl (fun H1670 e1671 w1672 => ?_))
  have f1673 := f0.put' e1671 g0 rfl
  have k1674 : H1670 r0 3 = 0 := wq_u_s e1671
  refine wp_of e13 c13_5 (rw_aload_n (pc' := 6) (v := .ref r0) rfl rfl rfl ?_)
  refine wp_of e13 c13_6 (rw_iconst (pc' := 7) rfl ?_)
  refine wp_of e13 c13_7 (xp_I (pc' := 10) lf_1_22 w1672 g0 sh_3 (by decide) (by decide) ty_3_4 rfl rfl (by decide) (by decide) ⟨by decide, by decide⟩ rfl (fun H1675 e1676 w1677 => ?_))
  have f1678 := f1673.put' e1676 g0 rfl
  have k1679 : H1675 r0 4 = -1 := wq_u_s e1676
  refine wp_of e13 c13_10 (rw_aload_n (pc' := 11) (v := .ref r3) rfl rfl rfl ?_)
  refine wp_of e13 c13_11 (xc_V (pc' := 14) (r := r3) (as := []) (st := []) (lm_1_25) rfl rfl (Nat.le_of_ble_eq_true rfl) w1677 g3 sh_27 (by decide) rfl (by decide) (u_14  w1677 g3) (fun R1680 T1681 H1682 p1683 => ?_))
  obtain ⟨e1684, w1686, f1687, e1685, p1688⟩ := p1683
  subst e1684
  subst e1685
  obtain ⟨a1689, a1690⟩ := p1688
  have f1691 := f1678.tr f1687 rfl
  show wp _ _ 13 14 [(0, .ref r0), (1, .ref r1), (2, vI a2), (3, .ref r3)] [] _ H1682 _
  have u1692 := DC_k a1689
  refine wp_of e13 c13_14 (rw_aload_n (pc' := 15) (v := .ref r0) rfl rfl rfl ?_)
  have k1693 : H1682 r0 0 = H r0 0 := ((f1687 r0 0 _ g0 rfl).trans ((wq_u_j e1676 rfl).trans (wq_u_j e1671 rfl)))
  have q1694 : H1682 r0 0 = (tk : Int) := k1693.trans qtk
  refine wp_of e13 c13_15 (xg_K (pc' := 18) lf_1_12 w1686 g0 sh_3 (by decide) (by decide) rfl q1694 rfl ?_)
  refine wp_of e13 c13_18 (rw_aload_n (pc' := 19) (v := .ref r1) rfl rfl rfl ?_)
  refine wp_of e13 c13_19 (rw_iload_n (pc' := 20) (z := a2) rfl rfl ?_)
  have h1695 : TP T H1682 r1 B := (TP_fr w1677 g1 f1687 rfl (TP_fr w1672 g1 ((wfr.rf (l := [(3, 4)])).put' e1676 g0 rfl) rfl (TP_fr hW g1 ((wfr.rf (l := [(3, 3)])).put' e1671 g0 rfl) rfl hTP_r1)))
  refine wp_of e13 c13_20 (xc_V (pc' := 23) (r := tk) (as := [.ref r1, vI a2]) (st := []) (lm_1_30) rfl rfl (Nat.le_of_ble_eq_true rfl) w1686 gtk sh_4 (by decide) rfl (by decide) (u_15 (B := B) w1686 gtk g1 ⟨i2.1, i2.2⟩ h1695) (fun R1696 T1697 H1698 p1699 => ?_))
  obtain ⟨e1700, w1702, f1703, e1701, p1704⟩ := p1699
  subst e1700
  subst e1701
  obtain ⟨a1705, a1706⟩ := p1704
  have f1707 := f1691.tr f1703 rfl
  show wp _ _ 13 23 [(0, .ref r0), (1, .ref r1), (2, vI a2), (3, .ref r3)] [] _ H1698 _
  have u1708 := TC_k a1706
  refine wp_of e13 c13_23 (rw_iconst (pc' := 24) rfl ?_)
  refine wp_of e13 c13_24 (rw_istore (pc' := 26) (z := 0) (L' := [(4, vI 0), (0, .ref r0), (1, .ref r1), (2, vI a2), (3, .ref r3)]) rfl rfl rfl ?_)
  have k2229 : H1698 r0 3 = H1670 r0 3 := ((f1703 r0 3 _ g0 rfl).trans ((f1687 r0 3 _ g0 rfl).trans (wq_u_j e1676 rfl)))
  have lp2222 : ∀ (n2223 : Nat) (v2225 : Int) (H2226 : wq_H) (q2227 : Int) (d2228 : xD), WT T H2226 → wfr [(27, 7), (27, 8), (27, 9), (27, 10), (27, 11), (27, 12), (27, 13), (27, 14), (27, 15), (27, 16), (35, 6), (35, 7), (35, 8), (35, 9), (35, 10), (35, 11), (35, 12), (35, 13), (35, 14), (35, 15), (35, 16), (35, 17), (3, 1), (3, 2), (3, 3), (3, 4), (4, 2), (4, 3), (4, 4), (4, 5), (4, 6), (31, 999), (34, 999), (29, 999), (30, 999), (33, 999), (32, 999)] T H1698 H2226 → (0 ≤ v2225 ∧ v2225 ≤ 901) → (H2226 r0 3 = 0) → TC T H2226 tk B a2 q2227 → DC T H2226 r3 d2228 → CZ T H2226 r3 (d2228 0 3) → (v2225 ≤ q2227) → (xpf B a2 (902 - v2225).toNat q2227 d2228 = xparse B a2) → (901 - v2225).toNat = n2223 → wp kt 6 13 26 [(4, vI v2225), (0, .ref r0), (3, .ref r3)] [] T H2226 (uq_13 r0 r1 a2 r3 tk B T H) := by
    intro n2223
    induction n2223 using Nat.strongRecOn with
    | _ n2223 ih2224 =>
      intro v2225 H2226 q2227 d2228 w2230 f2231 b2232 x2233 h2235 h2236 h2237 x2238 x2239 m2234
      have f2240 := f1707.tr f2231 rfl
      have u2241 := TC_k h2235
      have u2242 := DC_k h2236
      refine wp_of e13 c13_26 (rw_iload (pc' := 28) (z := v2225) rfl rfl ?_)
      refine wp_of e13 c13_28 (rw_sipush (pc' := 31) (z := 900) rfl (by decide) ?_)
      refine wp_of e13 c13_31 (rw_icmp_gt (p1 := 99) (p2 := 34) (by decide) rfl ⟨Int.le_trans (by decide) b2232.1, Int.le_trans b2232.2 (by decide)⟩ ⟨by decide, by decide⟩ (fun c2243 => ?_) (fun c2243 => ?_))
      · exfalso
        omega
      · refine wp_of e13 c13_34 (rw_aload_n (pc' := 35) (v := .ref r0) rfl rfl rfl ?_)
        refine wp_of e13 c13_35 (rw_aload_n (pc' := 36) (v := .ref r3) rfl rfl rfl ?_)
        have k2244 : H2226 r0 0 = H1682 r0 0 := ((f2231 r0 0 _ g0 rfl).trans (f1703 r0 0 _ g0 rfl))
        have q2245 : H2226 r0 0 = (tk : Int) := k2244.trans q1694
        have k2246 : H2226 tk 0 = H1698 tk 0 := (f2231 tk 0 _ gtk rfl)
        have q2247 : H2226 tk 0 = (r1 : Int) := k2246.trans a1705
        have h2248 : DD T H2226 r3  := (DD_fr w1702 g3 f2231 rfl (DD_fr w1686 g3 f1703 rfl (DD_fr w1677 g3 f1687 rfl (DD_fr w1672 g3 ((wfr.rf (l := [(3, 4)])).put' e1676 g0 rfl) rfl (DD_fr hW g3 ((wfr.rf (l := [(3, 3)])).put' e1671 g0 rfl) rfl hDD_r3)))))
        refine wp_of e13 c13_36 (xc_V (pc' := 39) (r := r0) (as := [.ref r3]) (st := []) (lm_1_34) rfl rfl (Nat.le_of_ble_eq_true rfl) w2230 g0 sh_3 (by decide) rfl (by decide) (u_17 (B := B) (n := a2) (q := q2227) (d := d2228) w2230 g0 g3 q2245 gtk q2247 g1 h2235 h2236 h2248 h2237) (fun R2249 T2250 H2251 p2252 => ?_))
        obtain ⟨e2253, w2255, f2256, z2257, e2254, b2258, p2259⟩ := p2252
        subst e2253
        subst e2254
        rcases p2259 with ⟨a2260, a2261, a2262, a2263, a2264, a2265, a2266⟩ | ⟨a2267, a2268, a2269, a2270, a2271⟩
        · have f2272 := f2240.tr f2256 rfl
          have f2273 := f2231.tr f2256 rfl
          show wp _ _ 13 39 [(4, vI v2225), (0, .ref r0), (3, .ref r3)] [vI z2257] _ H2251 _
          have u2274 := TC_k a2264
          have u2275 := DC_k a2265
          refine wp_of e13 c13_39 (rw_if_ne (p1 := 44) (p2 := 42) (by decide) rfl ⟨Int.le_trans (by decide) b2258.1, Int.le_trans b2258.2 (by decide)⟩ (fun c2276 => ?_) (fun c2276 => ?_))
          · refine wp_of e13 c13_44 (rw_aload_n (pc' := 45) (v := .ref r0) rfl rfl rfl ?_)
            have k2277 : H2251 r0 0 = H2226 r0 0 := (f2256 r0 0 _ g0 rfl)
            have q2278 : H2251 r0 0 = (tk : Int) := k2277.trans q2245
            refine wp_of e13 c13_45 (xg_K (pc' := 48) lf_1_12 w2255 g0 sh_3 (by decide) (by decide) rfl q2278 rfl ?_)
            refine wp_of e13 c13_48 (xg_I (pc' := 51) lf_1_38 w2255 gtk sh_4 (by decide) (by decide) ty_4_3 rfl rfl (fun b2279 b2280 => ?_))
            refine wp_of e13 c13_51 (rw_if_ne (p1 := 83) (p2 := 54) (by decide) rfl ⟨Int.le_trans (by decide) b2279, Int.le_trans b2280 (by decide)⟩ (fun c2281 => ?_) (fun c2281 => ?_))
            · have _e := TC_e a2264
              refine wp_of e13 c13_83 (rw_aload_n (pc' := 84) (v := .ref r0) rfl rfl rfl ?_)
              refine wp_of e13 c13_84 (rw_iconst (pc' := 85) rfl ?_)
              have k2282 : H2251 tk 0 = H2226 tk 0 := (f2256 tk 0 _ gtk rfl)
              have q2283 : H2251 tk 0 = (r1 : Int) := k2282.trans q2247
              refine wp_of e13 c13_85 (xc_V (pc' := 88) (r := r0) (as := [vI 3]) (st := []) (lm_1_51) rfl rfl (Nat.le_of_ble_eq_true rfl) w2255 g0 sh_3 (by decide) rfl (by decide) (u_35 (B := B) (n := a2) (q := ((xline B a2 q2227 d2228).2.2)) w2255 g0 ⟨by decide, by decide⟩ q2278 gtk q2283 g1 a2264) (fun R2284 T2285 H2286 p2287 => ?_))
              obtain ⟨e2288, w2290, f2291, z2292, e2289, b2293, p2294⟩ := p2287
              subst e2288
              subst e2289
              rcases p2294 with ⟨a2295, a2296, a2297, a2298, a2299⟩ | ⟨a2300, a2301, a2302, a2303, a2304⟩
              · have f2305 := f2272.tr f2291 rfl
                have f2306 := f2273.tr f2291 rfl
                show wp _ _ 13 88 [(4, vI v2225), (0, .ref r0), (3, .ref r3)] [vI z2292] _ H2286 _
                have u2307 := TC_k a2299
                refine wp_of e13 c13_88 (rw_if_ne (p1 := 93) (p2 := 91) (by decide) rfl ⟨Int.le_trans (by decide) b2293.1, Int.le_trans b2293.2 (by decide)⟩ (fun c2308 => ?_) (fun c2308 => ?_))
                · refine wp_of e13 c13_93 (rw_iinc (pc' := 96) (z := v2225) (L' := [(4, vI (v2225 + 1)), (0, .ref r0), (3, .ref r3)]) rfl rfl rfl rfl ?_)
                  refine wp_of e13 c13_96 (rw_goto (p1 := 26) (by decide) ?_)
                  have h2309 : DC T H2286 r3 (xdline B a2 q2227 d2228) := (DC_fr w2255 g3 f2291 rfl a2265)
                  have h2310 : CZ T H2286 r3 ((xdline B a2 q2227 d2228) 0 3) := (CZ_fr w2255 g3 f2291 rfl a2266)
                  exact wp_lc (ks := [4, 0, 3]) (wl_c rfl (wl_c rfl (wl_c rfl wl_n))) rfl (by decide) (ih2224 _ (by omega) (v2225 + 1) H2286 ((xN B a2 ((xline B a2 q2227 d2228).2.2))) (xdline B a2 q2227 d2228) w2290 f2306 ⟨by omega, by omega⟩ (by omega) a2299 h2309 h2310 (by omega) (by rw [← (‹xpf B a2 (902 - v2225).toNat q2227 d2228 = xparse B a2›), xpf_e (v := v2225) (q := q2227) (d := d2228) (by omega), if_pos (by omega), if_neg (by omega), if_pos (by omega)]) rfl)
                · exfalso
                  omega
              · have f2311 := f2272.tr f2291 rfl
                have f2312 := f2273.tr f2291 rfl
                show wp _ _ 13 88 [(4, vI v2225), (0, .ref r0), (3, .ref r3)] [vI z2292] _ H2286 _
                refine wp_of e13 c13_88 (rw_if_ne (p1 := 93) (p2 := 91) (by decide) rfl ⟨Int.le_trans (by decide) b2293.1, Int.le_trans b2293.2 (by decide)⟩ (fun c2313 => ?_) (fun c2313 => ?_))
                · exfalso
                  omega
                · refine wp_of e13 c13_91 (rw_iconst (pc' := 92) rfl ?_)
                  have o2314 : ((xparse B a2).1) = (1, ((xline B a2 q2227 d2228).2.2), q2227) := by
                    rw [← (‹xpf B a2 (902 - v2225).toNat q2227 d2228 = xparse B a2›), xpf_e (by omega)]
                    repeat first | rw [xs_0 (Int.le_antisymm (by omega -splitDisjunctions) (by omega -splitDisjunctions))] | rw [xs_1 (by omega -splitDisjunctions)] | rw [if_pos (Int.le_antisymm (by omega -splitDisjunctions) (by omega -splitDisjunctions))] | rw [if_pos (by omega -splitDisjunctions)] | rw [if_pos (And.intro (by omega -splitDisjunctions) (by omega -splitDisjunctions))] | rw [if_neg (by omega -splitDisjunctions)] | rw [xs_1 (by omega)] | rw [if_neg (by omega)] | rw [xs_0 (by omega)] | rw [if_pos (by omega)]
                    first | done | rfl | assumption | (exfalso; omega -splitDisjunctions) | (refine Prod.ext ?_ (Prod.ext ?_ ?_) <;> (try dsimp only) <;> omega) | (exfalso; omega)
                  have o2314a : (((xparse B a2).1)).1 = 1 := by rw [o2314]
                  have o2314b : (((xparse B a2).1)).2.1 = ((xline B a2 q2227 d2228).2.2) := by rw [o2314]
                  have o2314c : (((xparse B a2).1)).2.2 = q2227 := by rw [o2314]
                  exact wp_zreturn e13 c13_92 rfl (by omega) ⟨rfl, w2290, f2311, 0, rfl, ⟨by decide, by decide⟩, (Or.inr ⟨by omega, by omega, by omega, by omega⟩)⟩
            · refine wp_of e13 c13_54 (rw_aload_n (pc' := 55) (v := .ref r3) rfl rfl rfl ?_)
              refine wp_of e13 c13_55 (xg_I (pc' := 58) lf_1_41 w2255 g3 sh_27 (by decide) (by decide) ty_27_7 rfl rfl (fun b2315 b2316 => ?_))
              refine wp_of e13 c13_58 (rw_if_le (p1 := 68) (p2 := 61) (by decide) rfl ⟨Int.le_trans (by decide) b2315, Int.le_trans b2316 (by decide)⟩ (fun c2317 => ?_) (fun c2317 => ?_))
              · refine wp_of e13 c13_68 (rw_aload_n (pc' := 69) (v := .ref r0) rfl rfl rfl ?_)
                refine wp_of e13 c13_69 (rw_bipush (pc' := 71) (z := 6) rfl (by decide) ?_)
                refine wp_of e13 c13_71 (xc_V (pc' := 74) (r := r0) (as := [vI 6]) (st := []) (lm_1_47) rfl rfl (Nat.le_of_ble_eq_true rfl) w2255 g0 sh_3 (by decide) rfl (by decide) (u_20  w2255 g0 ⟨by decide, by decide⟩ q2278 gtk) (fun R2318 T2319 H2320 p2321 => ?_))
                obtain ⟨e2322, w2324, f2325, z2326, e2323, b2327, p2328⟩ := p2321
                subst e2322
                subst e2323
                obtain ⟨a2329, a2330, a2331⟩ := p2328
                have f2332 := f2272.tr f2325 rfl
                show wp _ _ 13 74 [(4, vI v2225), (0, .ref r0), (3, .ref r3)] [vI z2326] _ H2320 _
                refine wp_of e13 c13_74 (rw_if_eq (p1 := 81) (p2 := 77) (by decide) rfl ⟨Int.le_trans (by decide) b2327.1, Int.le_trans b2327.2 (by decide)⟩ (fun c2333 => ?_) (fun c2333 => ?_))
                · refine wp_of e13 c13_81 (rw_iconst (pc' := 82) rfl ?_)
                  have o2334 : ((xparse B a2).1) = (6, ((xline B a2 q2227 d2228).2.2), q2227) := by
                    rw [← (‹xpf B a2 (902 - v2225).toNat q2227 d2228 = xparse B a2›), xpf_e (by omega)]
                    repeat first | rw [xs_0 (Int.le_antisymm (by omega -splitDisjunctions) (by omega -splitDisjunctions))] | rw [xs_1 (by omega -splitDisjunctions)] | rw [if_pos (Int.le_antisymm (by omega -splitDisjunctions) (by omega -splitDisjunctions))] | rw [if_pos (by omega -splitDisjunctions)] | rw [if_pos (And.intro (by omega -splitDisjunctions) (by omega -splitDisjunctions))] | rw [if_neg (by omega -splitDisjunctions)] | rw [xs_1 (by omega)] | rw [if_neg (by omega)] | rw [xs_0 (by omega)] | rw [if_pos (by omega)]
                    first | done | rfl | assumption | (exfalso; omega -splitDisjunctions) | (refine Prod.ext ?_ (Prod.ext ?_ ?_) <;> (try dsimp only) <;> omega) | (exfalso; omega)
                  have o2334a : (((xparse B a2).1)).1 = 6 := by rw [o2334]
                  have o2334b : (((xparse B a2).1)).2.1 = ((xline B a2 q2227 d2228).2.2) := by rw [o2334]
                  have o2334c : (((xparse B a2).1)).2.2 = q2227 := by rw [o2334]
                  exact wp_zreturn e13 c13_82 rfl (by omega) ⟨rfl, w2324, f2332, 0, rfl, ⟨by decide, by decide⟩, (Or.inr ⟨by omega, by omega, by omega, by omega⟩)⟩
                · exfalso
                  omega
              · refine wp_of e13 c13_61 (rw_aload_n (pc' := 62) (v := .ref r3) rfl rfl rfl ?_)
                refine wp_of e13 c13_62 (xg_I (pc' := 65) lf_1_44 w2255 g3 sh_27 (by decide) (by decide) ty_27_10 rfl rfl (fun b2335 b2336 => ?_))
                refine wp_of e13 c13_65 (rw_if_gt (p1 := 77) (p2 := 68) (by decide) rfl ⟨Int.le_trans (by decide) b2335, Int.le_trans b2336 (by decide)⟩ (fun c2337 => ?_) (fun c2337 => ?_))
                · refine wp_of e13 c13_77 (rw_iconst (pc' := 78) rfl ?_)
                  refine wp_of e13 c13_78 (rw_goto (p1 := 82) (by decide) ?_)
                  have o2338 : ((xparse B a2).1) = (0, q2227, q2227) := by
                    rw [← (‹xpf B a2 (902 - v2225).toNat q2227 d2228 = xparse B a2›), xpf_e (by omega)]
                    repeat first | rw [xs_0 (Int.le_antisymm (by omega -splitDisjunctions) (by omega -splitDisjunctions))] | rw [xs_1 (by omega -splitDisjunctions)] | rw [if_pos (Int.le_antisymm (by omega -splitDisjunctions) (by omega -splitDisjunctions))] | rw [if_pos (by omega -splitDisjunctions)] | rw [if_pos (And.intro (by omega -splitDisjunctions) (by omega -splitDisjunctions))] | rw [if_neg (by omega -splitDisjunctions)] | rw [xs_1 (by omega)] | rw [if_neg (by omega)] | rw [xs_0 (by omega)] | rw [if_pos (by omega)]
                    first | done | rfl | assumption | (exfalso; omega -splitDisjunctions) | (refine Prod.ext ?_ (Prod.ext ?_ ?_) <;> (try dsimp only) <;> omega) | (exfalso; omega)
                  have o2338a : (((xparse B a2).1)).1 = 0 := by rw [o2338]
                  have o2338b : (((xparse B a2).1)).2.1 = q2227 := by rw [o2338]
                  have o2338c : (((xparse B a2).1)).2.2 = q2227 := by rw [o2338]
                  exact wp_zreturn e13 c13_82 rfl (by omega) ⟨rfl, w2255, f2272, 1, rfl, ⟨by decide, by decide⟩, (Or.inl ⟨by omega, by omega, by omega, by rw [← (‹xpf B a2 (902 - v2225).toNat q2227 d2228 = xparse B a2›), xpf_e (by omega), if_pos (by omega), if_pos (by omega), if_pos (by omega)]; exact a2265, by rw [← (‹xpf B a2 (902 - v2225).toNat q2227 d2228 = xparse B a2›), xpf_e (by omega), if_pos (by omega), if_pos (by omega), if_pos (by omega)]; exact a2266⟩)⟩
                · refine wp_of e13 c13_68 (rw_aload_n (pc' := 69) (v := .ref r0) rfl rfl rfl ?_)
                  refine wp_of e13 c13_69 (rw_bipush (pc' := 71) (z := 6) rfl (by decide) ?_)
                  refine wp_of e13 c13_71 (xc_V (pc' := 74) (r := r0) (as := [vI 6]) (st := []) (lm_1_47) rfl rfl (Nat.le_of_ble_eq_true rfl) w2255 g0 sh_3 (by decide) rfl (by decide) (u_20  w2255 g0 ⟨by decide, by decide⟩ q2278 gtk) (fun R2339 T2340 H2341 p2342 => ?_))
                  obtain ⟨e2343, w2345, f2346, z2347, e2344, b2348, p2349⟩ := p2342
                  subst e2343
                  subst e2344
                  obtain ⟨a2350, a2351, a2352⟩ := p2349
                  have f2353 := f2272.tr f2346 rfl
                  show wp _ _ 13 74 [(4, vI v2225), (0, .ref r0), (3, .ref r3)] [vI z2347] _ H2341 _
                  refine wp_of e13 c13_74 (rw_if_eq (p1 := 81) (p2 := 77) (by decide) rfl ⟨Int.le_trans (by decide) b2348.1, Int.le_trans b2348.2 (by decide)⟩ (fun c2354 => ?_) (fun c2354 => ?_))
                  · refine wp_of e13 c13_81 (rw_iconst (pc' := 82) rfl ?_)
                    have o2355 : ((xparse B a2).1) = (6, ((xline B a2 q2227 d2228).2.2), q2227) := by
                      rw [← (‹xpf B a2 (902 - v2225).toNat q2227 d2228 = xparse B a2›), xpf_e (by omega)]
                      repeat first | rw [xs_0 (Int.le_antisymm (by omega -splitDisjunctions) (by omega -splitDisjunctions))] | rw [xs_1 (by omega -splitDisjunctions)] | rw [if_pos (Int.le_antisymm (by omega -splitDisjunctions) (by omega -splitDisjunctions))] | rw [if_pos (by omega -splitDisjunctions)] | rw [if_pos (And.intro (by omega -splitDisjunctions) (by omega -splitDisjunctions))] | rw [if_neg (by omega -splitDisjunctions)] | rw [xs_1 (by omega)] | rw [if_neg (by omega)] | rw [xs_0 (by omega)] | rw [if_pos (by omega)]
                      first | done | rfl | assumption | (exfalso; omega -splitDisjunctions) | (refine Prod.ext ?_ (Prod.ext ?_ ?_) <;> (try dsimp only) <;> omega) | (exfalso; omega)
                    have o2355a : (((xparse B a2).1)).1 = 6 := by rw [o2355]
                    have o2355b : (((xparse B a2).1)).2.1 = ((xline B a2 q2227 d2228).2.2) := by rw [o2355]
                    have o2355c : (((xparse B a2).1)).2.2 = q2227 := by rw [o2355]
                    exact wp_zreturn e13 c13_82 rfl (by omega) ⟨rfl, w2345, f2353, 0, rfl, ⟨by decide, by decide⟩, (Or.inr ⟨by omega, by omega, by omega, by omega⟩)⟩
                  · exfalso
                    omega
          · exfalso
            omega
        · have f2356 := f2240.tr f2256 rfl
          have f2357 := f2231.tr f2256 rfl
          show wp _ _ 13 39 [(4, vI v2225), (0, .ref r0), (3, .ref r3)] [vI z2257] _ H2251 _
          refine wp_of e13 c13_39 (rw_if_ne (p1 := 44) (p2 := 42) (by decide) rfl ⟨Int.le_trans (by decide) b2258.1, Int.le_trans b2258.2 (by decide)⟩ (fun c2358 => ?_) (fun c2358 => ?_))
          · exfalso
            omega
          · refine wp_of e13 c13_42 (rw_iconst (pc' := 43) rfl ?_)
            have o2359 : ((xparse B a2).1) = ((xline B a2 q2227 d2228).1, (xline B a2 q2227 d2228).2.1, (xline B a2 q2227 d2228).2.2) := by
              rw [← (‹xpf B a2 (902 - v2225).toNat q2227 d2228 = xparse B a2›), xpf_e (by omega)]
              repeat first | rw [xs_0 (Int.le_antisymm (by omega -splitDisjunctions) (by omega -splitDisjunctions))] | rw [xs_1 (by omega -splitDisjunctions)] | rw [if_pos (Int.le_antisymm (by omega -splitDisjunctions) (by omega -splitDisjunctions))] | rw [if_pos (by omega -splitDisjunctions)] | rw [if_pos (And.intro (by omega -splitDisjunctions) (by omega -splitDisjunctions))] | rw [if_neg (by omega -splitDisjunctions)] | rw [xs_1 (by omega)] | rw [if_neg (by omega)] | rw [xs_0 (by omega)] | rw [if_pos (by omega)]
              first | done | rfl | assumption | (exfalso; omega -splitDisjunctions) | (refine Prod.ext ?_ (Prod.ext ?_ ?_) <;> (try dsimp only) <;> omega) | (exfalso; omega)
            have o2359a : (((xparse B a2).1)).1 = (xline B a2 q2227 d2228).1 := by rw [o2359]
            have o2359b : (((xparse B a2).1)).2.1 = (xline B a2 q2227 d2228).2.1 := by rw [o2359]
            have o2359c : (((xparse B a2).1)).2.2 = (xline B a2 q2227 d2228).2.2 := by rw [o2359]
            exact wp_zreturn e13 c13_43 rfl (by omega) ⟨rfl, w2255, f2356, 0, rfl, ⟨by decide, by decide⟩, (Or.inr ⟨by omega, by omega, by omega, by omega⟩)⟩
  have h2360 : DC T H1698 r3 xD0 := (DC_fr w1686 g3 f1703 rfl a1689)
  have h2361 : CZ T H1698 r3 (xD0 0 3) := (CZ_fr w1686 g3 f1703 rfl a1690)
  exact wp_lc (ks := [4, 0, 1, 2, 3]) (wl_c rfl (wl_c rfl (wl_c rfl wl_n))) rfl (by decide) (lp2222 _ 0 H1698 (xG 32 32 B a2 0) xD0 w1702 wfr.rf ⟨by decide, by decide⟩ (by omega) a1706 h2360 h2361 (by omega) (rfl) rfl)
/-! StrikeAwake.putOnTape(I)V  -/
abbrev uq_10 (r0 : Nat) (a1 : Int) (tp : Nat) (B : Nat → Int) (t : Int) (T : wq_T) (H : wq_H) : Option Value → wq_T → wq_H → Prop := fun r T' H' => T = T' ∧ WT T H' ∧ wfr [(1, 9), (2, 999)] T H H' ∧ none = r ∧ (((H' r0 9 = t + 4) ∧ TP T H' tp (xpk B t a1 4)))
set_option maxHeartbeats 4000000 in
theorem u_10 {kt : Nat → Option mc_E} {T : wq_T} {H : wq_H} {r0 : Nat} {a1 : Int} {tp : Nat} {B : Nat → Int} {t : Int} (hW : WT T H) (g0 : T.2.2.2 r0 = some 1) (i1 : (-2147483648) ≤ a1 ∧ a1 ≤ 2147483647) (qtp : H r0 0 = (tp : Int)) (gtp : T.2.2.2 tp = some 2) (p0 : H r0 9 = t) (p1 : t ≤ 896) (hTP_tp : TP T H tp B) : wpc kt 1 10 [.ref r0, vI a1] T H (uq_10 r0 a1 tp B t T H) := by
  refine wp_enter e10 (Nat.le_of_ble_eq_true rfl) rfl ?_
  have f0 : wfr [(1, 9), (2, 999)] T H H := wfr.rf
  show wp _ _ 10 0 [(0, .ref r0), (1, vI a1)] [] _ H _
  have b1147 : 0 ≤ H r0 9 ∧ H r0 9 ≤ 900 := hW.box g0 (n := 13) rfl (by decide) rfl
  refine wp_of e10 c10_0 (rw_bipush (pc' := 2) (z := 24) rfl (by decide) ?_)
  refine wp_of e10 c10_2 (rw_istore_n (pc' := 3) (z := 24) (L' := [(2, vI 24), (0, .ref r0), (1, vI a1)]) rfl rfl rfl ?_)
  have lp1269 : ∀ (n1270 : Nat) (v1272 : Int) (H1273 : wq_H) (ii1274 : Nat), WT T H1273 → wfr [(1, 9), (2, 999)] T H H1273 → ((-8) ≤ v1272 ∧ v1272 ≤ 24) → TP T H1273 tp (xpk B t a1 ii1274) → (v1272 = 24 - 8 * (ii1274 : Int)) → (ii1274 ≤ 4) → (H1273 r0 9 = t + (ii1274 : Int)) → (v1272 + 8).toNat = n1270 → wp kt 0 10 3 [(2, vI v1272), (0, .ref r0), (1, vI a1)] [] T H1273 (uq_10 r0 a1 tp B t T H) := by
    intro n1270
    induction n1270 using Nat.strongRecOn with
    | _ n1270 ih1271 =>
      intro v1272 H1273 ii1274 w1275 f1276 b1277 h1279 x1280 x1281 x1282 m1278
      have f1283 := f0.tr f1276 rfl
      refine wp_of e10 c10_3 (rw_iload_n (pc' := 4) (z := v1272) rfl rfl ?_)
      refine wp_of e10 c10_4 (rw_if_lt (p1 := 46) (p2 := 7) (by decide) rfl ⟨Int.le_trans (by decide) b1277.1, Int.le_trans b1277.2 (by decide)⟩ (fun c1284 => ?_) (fun c1284 => ?_))
      · exact wp_return e10 c10_46 rfl ⟨rfl, w1275, f1283, rfl, ⟨by omega, by
          have e4 : ii1274 = 4 := by omega
          rw [← e4]
          exact h1279⟩⟩
      · refine wp_of e10 c10_7 (rw_aload_n (pc' := 8) (v := .ref r0) rfl rfl rfl ?_)
        refine wp_of e10 c10_8 (xg_I (pc' := 11) lf_0_62 w1275 g0 sh_1 (by decide) (by decide) ty_1_9 rfl rfl (fun b1285 b1286 => ?_))
        refine wp_of e10 c10_11 (rw_sipush (pc' := 14) (z := 900) rfl (by decide) ?_)
        refine wp_of e10 c10_14 (rw_icmp_ge (p1 := 46) (p2 := 17) (by decide) rfl ⟨Int.le_trans (by decide) b1285, Int.le_trans b1286 (by decide)⟩ ⟨by decide, by decide⟩ (fun c1287 => ?_) (fun c1287 => ?_))
        · exact wp_return e10 c10_46 rfl ⟨rfl, w1275, f1283, rfl, ⟨by omega, by
            have e4 : ii1274 = 4 := by omega
            rw [← e4]
            exact h1279⟩⟩
        · refine wp_of e10 c10_17 (rw_aload_n (pc' := 18) (v := .ref r0) rfl rfl rfl ?_)
          have k1288 : H1273 r0 0 = H r0 0 := (f1276 r0 0 _ g0 rfl)
          have q1289 : H1273 r0 0 = (tp : Int) := k1288.trans qtp
          refine wp_of e10 c10_18 (xg_K (pc' := 21) lf_0_9 w1275 g0 sh_1 (by decide) (by decide) rfl q1289 rfl ?_)
          refine wp_of e10 c10_21 (rw_aload_n (pc' := 22) (v := .ref r0) rfl rfl rfl ?_)
          refine wp_of e10 c10_22 (xg_I (pc' := 25) lf_0_62 w1275 g0 sh_1 (by decide) (by decide) ty_1_9 rfl rfl (fun b1290 b1291 => ?_))
          refine wp_of e10 c10_25 (rw_iload_n (pc' := 26) (z := a1) rfl rfl ?_)
          refine wp_of e10 c10_26 (rw_iload_n (pc' := 27) (z := v1272) rfl rfl ?_)
          refine wp_of e10 c10_27 (rw_ishr (pc' := 28) rfl ?_)
          obtain ⟨v1292, e1293⟩ : ∃ x : Int, x = wq_shr a1 v1272 := ⟨_, rfl⟩
          rw [← e1293]
          have b1294 : -2147483648 ≤ v1292 ∧ v1292 ≤ 2147483647 := by
            rw [e1293]
            exact wI_shr _ _
          refine wp_of e10 c10_28 (rw_i2b (pc' := 29) rfl ?_)
          obtain ⟨v1295, e1296⟩ : ∃ x : Int, x = wq_i2b v1292 := ⟨_, rfl⟩
          rw [← e1296]
          have b1297 : -128 ≤ v1295 ∧ v1295 ≤ 127 := by
            rw [e1296]
            exact wq_i2b_b _
          have o1298 : v1295 = wq_i2b (wq_shr a1 v1272) := by
            subst_vars
            rfl
          refine wp_of e10 c10_29 (xs_B (pc' := 30) w1275 gtp (by decide) sh_2 (by decide) (ty_2 _) (b1297.1) (b1297.2) ⟨b1297.1, b1297.2⟩ (b1290) (by omega) rfl (fun H1299 e1300 w1301 => ?_))
          have f1302 := f1283.put' e1300 gtp rfl
          have f1303 := f1276.put' e1300 gtp rfl
          have h1304 : TP T H1299 tp (xpk B t a1 (ii1274 + 1)) := TP_pk h1279 e1300 (by omega) o1298 (by omega)
          refine wp_of e10 c10_30 (rw_aload_n (pc' := 31) (v := .ref r0) rfl rfl rfl ?_)
          refine wp_of e10 c10_31 (rw_dup (pc' := 32) rfl rfl ?_)
          have k1305 : H1299 r0 9 = H1273 r0 9 := (wq_u_t e1300 gtp g0 rfl 9)
          refine wp_of e10 c10_32 (xg_I (pc' := 35) lf_0_62 w1301 g0 sh_1 (by decide) (by decide) ty_1_9 rfl rfl (fun b1306 b1307 => ?_))
          refine wp_of e10 c10_35 (rw_iconst (pc' := 36) rfl ?_)
          refine wp_of e10 c10_36 (rw_iadd (pc' := 37) rfl ?_)
          refine wp_of e10 c10_37 (xp_I (pc' := 40) lf_0_62 w1301 g0 sh_1 (by decide) (by decide) ty_1_9 rfl rfl (by omega) (by omega) ⟨by omega, by omega⟩ rfl (fun H1308 e1309 w1310 => ?_))
          have f1311 := f1302.put' e1309 g0 rfl
          have f1312 := f1303.put' e1309 g0 rfl
          have k1313 : H1308 r0 9 = (H1299 r0 9) + 1 := wq_u_s e1309
          refine wp_of e10 c10_40 (rw_iinc (pc' := 43) (z := v1272) (L' := [(2, vI (v1272 + (-8))), (0, .ref r0), (1, vI a1)]) rfl rfl rfl rfl ?_)
          refine wp_of e10 c10_43 (rw_goto (p1 := 3) (by decide) ?_)
          have h1314 : TP T H1308 tp (xpk B t a1 (ii1274 + 1)) := (TP_fr w1301 gtp ((wfr.rf (l := [(1, 9)])).put' e1309 g0 rfl) rfl h1304)
          exact wp_lc (ks := [2, 0, 1]) (wl_c rfl (wl_c rfl (wl_c rfl wl_n))) rfl (by decide) (ih1271 _ (by omega) (v1272 + (-8)) H1308 ((ii1274 + 1)) w1310 f1312 ⟨by omega, by omega⟩ h1314 (by omega) (by omega) (by omega) rfl)
  have h1315 : TP T H tp (xpk B t a1 0) := hTP_tp
  exact wp_lc (ks := [2, 0, 1]) (wl_c rfl (wl_c rfl (wl_c rfl wl_n))) rfl (by decide) (lp1269 _ 24 H 0 hW wfr.rf ⟨by decide, by decide⟩ h1315 (by omega) (by omega) (by omega) rfl)
/-! StrikeAwake.feed(IIIII)I  -/
abbrev uq_9 (r0 : Nat) (a1 : Int) (a2 : Int) (a3 : Int) (a4 : Int) (a5 : Int) (tp : Nat) (B : Nat → Int) (t : Int) (b1 : Int) (b2 : Int) (b3 : Int) (b4 : Int) (b5 : Int) (T : wq_T) (H : wq_H) : Option Value → wq_T → wq_H → Prop := fun r T' H' => T = T' ∧ WT T H' ∧ wfr [(1, 9), (2, 999)] T H H' ∧ ∃ z : Int, some (vI z) = r ∧ ((-2147483648) ≤ z ∧ z ≤ 2147483647) ∧ (((z = -1) ∧ (880 < t) ∧ (H' r0 9 = t) ∧ TP T H' tp B) ∨ ((0 ≤ z ∧ z ≤ 900) ∧ (t ≤ 880) ∧ (z = t + 20) ∧ (H' r0 9 = t + 20) ∧ TP T H' tp (xfk B t b1 b2 b3 b4 b5 20)))
set_option maxHeartbeats 4000000 in
theorem u_9 {kt : Nat → Option mc_E} {T : wq_T} {H : wq_H} {r0 : Nat} {a1 : Int} {a2 : Int} {a3 : Int} {a4 : Int} {a5 : Int} {tp : Nat} {B : Nat → Int} {t : Int} {b1 : Int} {b2 : Int} {b3 : Int} {b4 : Int} {b5 : Int} (hW : WT T H) (g0 : T.2.2.2 r0 = some 1) (i1 : (-2147483648) ≤ a1 ∧ a1 ≤ 2147483647) (i2 : (-2147483648) ≤ a2 ∧ a2 ≤ 2147483647) (i3 : (-2147483648) ≤ a3 ∧ a3 ≤ 2147483647) (i4 : (-2147483648) ≤ a4 ∧ a4 ≤ 2147483647) (i5 : (-2147483648) ≤ a5 ∧ a5 ≤ 2147483647) (qtp : H r0 0 = (tp : Int)) (gtp : T.2.2.2 tp = some 2) (p0 : H r0 9 = t) (p1 : a1 = b1) (p2 : a2 = b2) (p3 : a3 = b3) (p4 : a4 = b4) (p5 : a5 = b5) (hTP_tp : TP T H tp B) : wpc kt 2 9 [.ref r0, vI a1, vI a2, vI a3, vI a4, vI a5] T H (uq_9 r0 a1 a2 a3 a4 a5 tp B t b1 b2 b3 b4 b5 T H) := by
  refine wp_enter e9 (Nat.le_of_ble_eq_true rfl) rfl ?_
  have f0 : wfr [(1, 9), (2, 999)] T H H := wfr.rf
  show wp _ _ 9 0 [(0, .ref r0), (1, vI a1), (2, vI a2), (3, vI a3), (4, vI a4), (5, vI a5)] [] _ H _
  have b1074 : 0 ≤ H r0 9 ∧ H r0 9 ≤ 900 := hW.box g0 (n := 13) rfl (by decide) rfl
  refine wp_of e9 c9_0 (rw_aload_n (pc' := 1) (v := .ref r0) rfl rfl rfl ?_)
  refine wp_of e9 c9_1 (xg_I (pc' := 4) lf_0_62 hW g0 sh_1 (by decide) (by decide) ty_1_9 rfl rfl (fun b1075 b1076 => ?_))
  refine wp_of e9 c9_4 (rw_sipush (pc' := 7) (z := 880) rfl (by decide) ?_)
  refine wp_of e9 c9_7 (rw_icmp_le (p1 := 12) (p2 := 10) (by decide) rfl ⟨Int.le_trans (by decide) b1075, Int.le_trans b1076 (by decide)⟩ ⟨by decide, by decide⟩ (fun c1077 => ?_) (fun c1077 => ?_))
  · refine wp_of e9 c9_12 (rw_aload_n (pc' := 13) (v := .ref r0) rfl rfl rfl ?_)
    refine wp_of e9 c9_13 (rw_iload_n (pc' := 14) (z := a1) rfl rfl ?_)
    refine wp_of e9 c9_14 (xc_V (pc' := 17) (r := r0) (as := [vI a1]) (st := []) (lm_0_66) rfl rfl (Nat.le_of_ble_eq_true rfl) hW g0 sh_1 (by decide) rfl (by decide) (u_10 (B := B) (t := t) hW g0 ⟨i1.1, i1.2⟩ qtp gtp (by omega) (by omega) hTP_tp) (fun R1078 T1079 H1080 p1081 => ?_))
    obtain ⟨e1082, w1084, f1085, e1083, p1086⟩ := p1081
    subst e1082
    subst e1083
    obtain ⟨a1087, a1088⟩ := p1086
    have f1089 := f0.tr f1085 rfl
    show wp _ _ 9 17 [(0, .ref r0), (1, vI a1), (2, vI a2), (3, vI a3), (4, vI a4), (5, vI a5)] [] _ H1080 _
    refine wp_of e9 c9_17 (rw_aload_n (pc' := 18) (v := .ref r0) rfl rfl rfl ?_)
    refine wp_of e9 c9_18 (rw_iload_n (pc' := 19) (z := a2) rfl rfl ?_)
    have k1090 : H1080 r0 0 = H r0 0 := (f1085 r0 0 _ g0 rfl)
    have q1091 : H1080 r0 0 = (tp : Int) := k1090.trans qtp
    refine wp_of e9 c9_19 (xc_V (pc' := 22) (r := r0) (as := [vI a2]) (st := []) (lm_0_66) rfl rfl (Nat.le_of_ble_eq_true rfl) w1084 g0 sh_1 (by decide) rfl (by decide) (u_10 (B := (xpk B t a1 4)) (t := (t + 4)) w1084 g0 ⟨i2.1, i2.2⟩ q1091 gtp (by omega) (by omega) a1088) (fun R1092 T1093 H1094 p1095 => ?_))
    obtain ⟨e1096, w1098, f1099, e1097, p1100⟩ := p1095
    subst e1096
    subst e1097
    obtain ⟨a1101, a1102⟩ := p1100
    have f1103 := f1089.tr f1099 rfl
    show wp _ _ 9 22 [(0, .ref r0), (1, vI a1), (2, vI a2), (3, vI a3), (4, vI a4), (5, vI a5)] [] _ H1094 _
    refine wp_of e9 c9_22 (rw_aload_n (pc' := 23) (v := .ref r0) rfl rfl rfl ?_)
    refine wp_of e9 c9_23 (rw_iload_n (pc' := 24) (z := a3) rfl rfl ?_)
    have k1104 : H1094 r0 0 = H1080 r0 0 := (f1099 r0 0 _ g0 rfl)
    have q1105 : H1094 r0 0 = (tp : Int) := k1104.trans q1091
    refine wp_of e9 c9_24 (xc_V (pc' := 27) (r := r0) (as := [vI a3]) (st := []) (lm_0_66) rfl rfl (Nat.le_of_ble_eq_true rfl) w1098 g0 sh_1 (by decide) rfl (by decide) (u_10 (B := (xpk (xpk B t a1 4) (t + 4) a2 4)) (t := (t + 8)) w1098 g0 ⟨i3.1, i3.2⟩ q1105 gtp (by omega) (by omega) a1102) (fun R1106 T1107 H1108 p1109 => ?_))
    obtain ⟨e1110, w1112, f1113, e1111, p1114⟩ := p1109
    subst e1110
    subst e1111
    obtain ⟨a1115, a1116⟩ := p1114
    have f1117 := f1103.tr f1113 rfl
    show wp _ _ 9 27 [(0, .ref r0), (1, vI a1), (2, vI a2), (3, vI a3), (4, vI a4), (5, vI a5)] [] _ H1108 _
    refine wp_of e9 c9_27 (rw_aload_n (pc' := 28) (v := .ref r0) rfl rfl rfl ?_)
    refine wp_of e9 c9_28 (rw_iload (pc' := 30) (z := a4) rfl rfl ?_)
    have k1118 : H1108 r0 0 = H1094 r0 0 := (f1113 r0 0 _ g0 rfl)
    have q1119 : H1108 r0 0 = (tp : Int) := k1118.trans q1105
    refine wp_of e9 c9_30 (xc_V (pc' := 33) (r := r0) (as := [vI a4]) (st := []) (lm_0_66) rfl rfl (Nat.le_of_ble_eq_true rfl) w1112 g0 sh_1 (by decide) rfl (by decide) (u_10 (B := (xpk (xpk (xpk B t a1 4) (t + 4) a2 4) (t + 8) a3 4)) (t := (t + 12)) w1112 g0 ⟨i4.1, i4.2⟩ q1119 gtp (by omega) (by omega) a1116) (fun R1120 T1121 H1122 p1123 => ?_))
    obtain ⟨e1124, w1126, f1127, e1125, p1128⟩ := p1123
    subst e1124
    subst e1125
    obtain ⟨a1129, a1130⟩ := p1128
    have f1131 := f1117.tr f1127 rfl
    show wp _ _ 9 33 [(0, .ref r0), (1, vI a1), (2, vI a2), (3, vI a3), (4, vI a4), (5, vI a5)] [] _ H1122 _
    refine wp_of e9 c9_33 (rw_aload_n (pc' := 34) (v := .ref r0) rfl rfl rfl ?_)
    refine wp_of e9 c9_34 (rw_iload (pc' := 36) (z := a5) rfl rfl ?_)
    have k1132 : H1122 r0 0 = H1108 r0 0 := (f1127 r0 0 _ g0 rfl)
    have q1133 : H1122 r0 0 = (tp : Int) := k1132.trans q1119
    refine wp_of e9 c9_36 (xc_V (pc' := 39) (r := r0) (as := [vI a5]) (st := []) (lm_0_66) rfl rfl (Nat.le_of_ble_eq_true rfl) w1126 g0 sh_1 (by decide) rfl (by decide) (u_10 (B := (xpk (xpk (xpk (xpk B t a1 4) (t + 4) a2 4) (t + 8) a3 4) (t + 12) a4 4)) (t := (t + 16)) w1126 g0 ⟨i5.1, i5.2⟩ q1133 gtp (by omega) (by omega) a1130) (fun R1134 T1135 H1136 p1137 => ?_))
    obtain ⟨e1138, w1140, f1141, e1139, p1142⟩ := p1137
    subst e1138
    subst e1139
    obtain ⟨a1143, a1144⟩ := p1142
    have f1145 := f1131.tr f1141 rfl
    show wp _ _ 9 39 [(0, .ref r0), (1, vI a1), (2, vI a2), (3, vI a3), (4, vI a4), (5, vI a5)] [] _ H1136 _
    refine wp_of e9 c9_39 (rw_aload_n (pc' := 40) (v := .ref r0) rfl rfl rfl ?_)
    refine wp_of e9 c9_40 (xg_I (pc' := 43) lf_0_62 w1140 g0 sh_1 (by decide) (by decide) ty_1_9 rfl rfl (fun b1146 b1147 => ?_))
    exact wp_ireturn e9 c9_43 rfl ⟨rfl, w1140, f1145, H1136 r0 9, rfl, ⟨Int.le_trans (by decide) b1146, Int.le_trans b1147 (by decide)⟩, (Or.inr ⟨by omega, by omega, by omega, by omega, by rw [← p1, ← p2, ← p3, ← p4, ← p5, ← xfk_4]; exact a1144⟩)⟩
  · refine wp_of e9 c9_10 (rw_iconst (pc' := 11) rfl ?_)
    exact wp_ireturn e9 c9_11 rfl ⟨rfl, hW, f0, -1, rfl, ⟨by decide, by decide⟩, (Or.inl ⟨by omega, by omega, by omega, hTP_tp⟩)⟩
/-! StrikeAwake.refuse(I)I  -/
abbrev uq_12 (r0 : Nat) (a1 : Int) (T : wq_T) (H : wq_H) : Option Value → wq_T → wq_H → Prop := fun r T' H' => T = T' ∧ WT T H' ∧ wfr [(1, 10)] T H H' ∧ ∃ z : Int, some (vI z) = r ∧ ((-2147483648) ≤ z ∧ z ≤ 2147483647) ∧ (((z = -1) ∧ (H' r0 10 = a1)))
set_option maxHeartbeats 4000000 in
theorem u_12 {kt : Nat → Option mc_E} {T : wq_T} {H : wq_H} {r0 : Nat} {a1 : Int} (hW : WT T H) (g0 : T.2.2.2 r0 = some 1) (i1 : (-2147483648) ≤ a1 ∧ a1 ≤ 2147483647) : wpc kt 1 12 [.ref r0, vI a1] T H (uq_12 r0 a1 T H) := by
  refine wp_enter e12 (Nat.le_of_ble_eq_true rfl) rfl ?_
  have f0 : wfr [(1, 10)] T H H := wfr.rf
  show wp _ _ 12 0 [(0, .ref r0), (1, vI a1)] [] _ H _
  refine wp_of e12 c12_0 (rw_aload_n (pc' := 1) (v := .ref r0) rfl rfl rfl ?_)
  refine wp_of e12 c12_1 (rw_iload_n (pc' := 2) (z := a1) rfl rfl ?_)
  refine wp_of e12 c12_2 (xp_I (pc' := 5) lf_0_102 hW g0 sh_1 (by decide) (by decide) ty_1_10 rfl rfl (i1.1) (i1.2) ⟨i1.1, i1.2⟩ rfl (fun H1006 e1007 w1008 => ?_))
  have f1009 := f0.put' e1007 g0 rfl
  have k1010 : H1006 r0 10 = a1 := wq_u_s e1007
  refine wp_of e12 c12_5 (rw_iconst (pc' := 6) rfl ?_)
  exact wp_ireturn e12 c12_6 rfl ⟨rfl, w1008, f1009, -1, rfl, ⟨by decide, by decide⟩, ⟨by omega, by omega⟩⟩
/-! StrikeAwake.answer(I)I  -/
abbrev uq_51 (r0 : Nat) (a1 : Int) (T : wq_T) (H : wq_H) : Option Value → wq_T → wq_H → Prop := fun r T' H' => T = T' ∧ WT T H' ∧ wfr [(1, 10)] T H H' ∧ ∃ z : Int, some (vI z) = r ∧ ((-2147483648) ≤ z ∧ z ≤ 2147483647) ∧ (((z = a1) ∧ (H' r0 10 = 0)))
set_option maxHeartbeats 4000000 in
theorem u_51 {kt : Nat → Option mc_E} {T : wq_T} {H : wq_H} {r0 : Nat} {a1 : Int} (hW : WT T H) (g0 : T.2.2.2 r0 = some 1) (i1 : (-2147483648) ≤ a1 ∧ a1 ≤ 2147483647) : wpc kt 1 51 [.ref r0, vI a1] T H (uq_51 r0 a1 T H) := by
  refine wp_enter e51 (Nat.le_of_ble_eq_true rfl) rfl ?_
  have f0 : wfr [(1, 10)] T H H := wfr.rf
  show wp _ _ 51 0 [(0, .ref r0), (1, vI a1)] [] _ H _
  refine wp_of e51 c51_0 (rw_aload_n (pc' := 1) (v := .ref r0) rfl rfl rfl ?_)
  refine wp_of e51 c51_1 (rw_iconst (pc' := 2) rfl ?_)
  refine wp_of e51 c51_2 (xp_I (pc' := 5) lf_0_102 hW g0 sh_1 (by decide) (by decide) ty_1_10 rfl rfl (by decide) (by decide) ⟨by decide, by decide⟩ rfl (fun H1006 e1007 w1008 => ?_))
  have f1009 := f0.put' e1007 g0 rfl
  have k1010 : H1006 r0 10 = 0 := wq_u_s e1007
  refine wp_of e51 c51_5 (rw_iload_n (pc' := 6) (z := a1) rfl rfl ?_)
  exact wp_ireturn e51 c51_6 rfl ⟨rfl, w1008, f1009, a1, rfl, ⟨i1.1, i1.2⟩, ⟨by omega, by omega⟩⟩
/-! StrikeAwake$Walk.tallyOf(I)J  -/
abbrev uq_49 (a0 : Int) (T : wq_T) (H : wq_H) : Option Value → wq_T → wq_H → Prop := fun r T' H' => T = T' ∧ H = H' ∧ ∃ z : Int, some (vL z) = r ∧ ((-9223372036854775808) ≤ z ∧ z ≤ 9223372036854775807) ∧ (((z = xtal a0 12)))
set_option maxHeartbeats 4000000 in
theorem u_49 {kt : Nat → Option mc_E} {T : wq_T} {H : wq_H} {a0 : Int} (hW : WT T H) (i0 : (-2147483648) ≤ a0 ∧ a0 ≤ 2147483647) : wpc kt 1 49 [vI a0] T H (uq_49 a0 T H) := by
  refine wp_enter e49 (Nat.le_of_ble_eq_true rfl) rfl ?_
  show wp _ _ 49 0 [(0, vI a0)] [] _ H _
  refine wp_of e49 c49_0 (rw_lconst (pc' := 1) (z := 0) rfl rfl ?_)
  refine wp_of e49 c49_1 (rw_lstore_n (pc' := 2) (z := 0) (L' := [(1, vL 0), (0, vI a0)]) rfl rfl rfl ?_)
  refine wp_of e49 c49_2 (rw_iconst (pc' := 3) rfl ?_)
  refine wp_of e49 c49_3 (rw_istore_n (pc' := 4) (z := 0) (L' := [(3, vI 0), (1, vL 0), (0, vI a0)]) rfl rfl rfl ?_)
  have lp1155 : ∀ (n1156 : Nat) (v1158 : Int) (v1159 : Int), (0 ≤ v1158 ∧ v1158 ≤ 12) → ((-9223372036854775808) ≤ v1159 ∧ v1159 ≤ 9223372036854775807) → (v1159 = xtal a0 (v1158).toNat) → (12 - v1158).toNat = n1156 → wp kt 0 49 4 [(3, vI v1158), (1, vL v1159), (0, vI a0)] [] T H (uq_49 a0 T H) := by
    intro n1156
    induction n1156 using Nat.strongRecOn with
    | _ n1156 ih1157 =>
      intro v1158 v1159 b1162 b1163 x1164 m1165
      refine wp_of e49 c49_4 (rw_iload_n (pc' := 5) (z := v1158) rfl rfl ?_)
      refine wp_of e49 c49_5 (rw_bipush (pc' := 7) (z := 12) rfl (by decide) ?_)
      refine wp_of e49 c49_7 (rw_icmp_ge (p1 := 29) (p2 := 10) (by decide) rfl ⟨Int.le_trans (by decide) b1162.1, Int.le_trans b1162.2 (by decide)⟩ ⟨by decide, by decide⟩ (fun c1166 => ?_) (fun c1166 => ?_))
      · have _t : v1159 = xtal a0 12 := by
          have e : (v1158).toNat = 12 := by omega
          rw [← e]
          assumption
        refine wp_of e49 c49_29 (rw_lload_n (pc' := 30) (z := v1159) rfl rfl ?_)
        exact wp_lreturn e49 c49_30 rfl ⟨rfl, rfl, v1159, rfl, ⟨b1163.1, b1163.2⟩, (by omega)⟩
      · refine wp_of e49 c49_10 (rw_lload_n (pc' := 11) (z := v1159) rfl rfl ?_)
        refine wp_of e49 c49_11 (rw_iload_n (pc' := 12) (z := a0) rfl rfl ?_)
        refine wp_of e49 c49_12 (rw_iload_n (pc' := 13) (z := v1158) rfl rfl ?_)
        refine wp_of e49 c49_13 (rw_ishr (pc' := 14) rfl ?_)
        obtain ⟨v1167, e1168⟩ : ∃ x : Int, x = wq_shr a0 v1158 := ⟨_, rfl⟩
        rw [← e1168]
        have b1169 : -2147483648 ≤ v1167 ∧ v1167 ≤ 2147483647 := by
          rw [e1168]
          exact wI_shr _ _
        refine wp_of e49 c49_14 (rw_i2l (pc' := 15) rfl ⟨b1169.1, b1169.2⟩ ?_)
        refine wp_of e49 c49_15 (rw_lconst (pc' := 16) (z := 1) rfl rfl ?_)
        refine wp_of e49 c49_16 (rw_land (pc' := 17) rfl ?_)
        obtain ⟨v1170, e1171⟩ : ∃ x : Int, x = wl_and v1167 1 := ⟨_, rfl⟩
        rw [← e1171]
        have b1172 : -9223372036854775808 ≤ v1170 ∧ v1170 ≤ 9223372036854775807 := by
          rw [e1171]
          exact wL_and _ _
        refine wp_of e49 c49_17 (rw_iload_n (pc' := 18) (z := v1158) rfl rfl ?_)
        refine wp_of e49 c49_18 (rw_iconst (pc' := 19) rfl ?_)
        refine wp_of e49 c49_19 (rw_imul (pc' := 20) rfl ?_)
        refine wp_of e49 c49_20 (rw_lshl (pc' := 21) rfl ?_)
        obtain ⟨v1173, e1174⟩ : ∃ x : Int, x = wl_shl v1170 (v1158 * 4) := ⟨_, rfl⟩
        rw [← e1174]
        have b1175 : -9223372036854775808 ≤ v1173 ∧ v1173 ≤ 9223372036854775807 := by
          rw [e1174]
          exact wL_shl _ _
        refine wp_of e49 c49_21 (rw_lor (pc' := 22) rfl ?_)
        obtain ⟨v1176, e1177⟩ : ∃ x : Int, x = wl_or v1159 v1173 := ⟨_, rfl⟩
        rw [← e1177]
        have b1178 : -9223372036854775808 ≤ v1176 ∧ v1176 ≤ 9223372036854775807 := by
          rw [e1177]
          exact wL_or _ _
        refine wp_of e49 c49_22 (rw_lstore_n (pc' := 23) (z := v1176) (L' := [(1, vL v1176), (3, vI v1158), (0, vI a0)]) rfl rfl rfl ?_)
        refine wp_of e49 c49_23 (rw_iinc (pc' := 26) (z := v1158) (L' := [(3, vI (v1158 + 1)), (1, vL v1176), (0, vI a0)]) rfl rfl rfl rfl ?_)
        refine wp_of e49 c49_26 (rw_goto (p1 := 4) (by decide) ?_)
        have : v1176 = xtal a0 (v1158 + 1).toNat := by
          rw [xtal_s (by omega), e1177, e1174, e1171, e1168, ‹v1159 = xtal a0 (v1158).toNat›]
        exact wp_lc (ks := [3, 1, 0]) (wl_c rfl (wl_c rfl (wl_c rfl wl_n))) rfl (by decide) (ih1157 _ (by omega) (v1158 + 1) v1176 ⟨by omega, by omega⟩ ⟨b1178.1, b1178.2⟩ (by omega) rfl)
  have : (0 : Int) = xtal a0 (0 : Int).toNat := rfl
  exact wp_lc (ks := [3, 1, 0]) (wl_c rfl (wl_c rfl (wl_c rfl wl_n))) rfl (by decide) (lp1155 _ 0 0 ⟨by decide, by decide⟩ ⟨by decide, by decide⟩ (by omega) rfl)
/-! StrikeAwake$Person.addSpan(IIII)V  -/
abbrev uq_48 (r0 : Nat) (a1 : Int) (a2 : Int) (a3 : Int) (a4 : Int) (d : xD) (k : Nat) (P : List (Int × Int)) (y1 : Int) (y2 : Int) (T : wq_T) (H : wq_H) : Option Value → wq_T → wq_H → Prop := fun r T' H' => T = T' ∧ WT T H' ∧ wfr [(35, 15), (38, 999), (39, 999), (36, 999), (40, 999), (41, 999), (37, 999)] T H H' ∧ none = r ∧ ((PS T H' r0 d k (P ++ [(y1, y2)])))
set_option maxHeartbeats 4000000 in
theorem u_48 {kt : Nat → Option mc_E} {T : wq_T} {H : wq_H} {r0 : Nat} {a1 : Int} {a2 : Int} {a3 : Int} {a4 : Int} {d : xD} {k : Nat} {P : List (Int × Int)} {y1 : Int} {y2 : Int} (hW : WT T H) (g0 : T.2.2.2 r0 = some 35) (i1 : (-1) ≤ a1 ∧ a1 ≤ 24) (i2 : (-1) ≤ a2 ∧ a2 ≤ 24) (i3 : (-2147483648) ≤ a3 ∧ a3 ≤ 2147483647) (i4 : (-2147483648) ≤ a4 ∧ a4 ≤ 2147483647) (p0 : a1 = y1) (p1 : a2 = y2) (p2 : (P.length : Int) ≤ 39) (p3 : a3 = xas d k (y1, y2)) (p4 : a4 = xwk d k (y1, y2)) (hPS_r0 : PS T H r0 d k P) : wpc kt 2 48 [.ref r0, vI a1, vI a2, vI a3, vI a4] T H (uq_48 r0 a1 a2 a3 a4 d k P y1 y2 T H) := by
  refine wp_enter e48 (Nat.le_of_ble_eq_true rfl) rfl ?_
  have f0 : wfr [(35, 15), (38, 999), (39, 999), (36, 999), (40, 999), (41, 999), (37, 999)] T H H := wfr.rf
  show wp _ _ 48 0 [(0, .ref r0), (1, vI a1), (2, vI a2), (3, vI a3), (4, vI a4)] [] _ H _
  have h1101 : PA0 T H r0 (P.length : Int) (xr1 P) := hPS_r0.2.1
  have h1102 : PA1 T H r0 (P.length : Int) (xr2 P) := hPS_r0.2.2.1
  have h1103 : PA2 T H r0 (P.length : Int) (xr3 d k P) := hPS_r0.2.2.2.1
  have h1104 : PA3 T H r0 (P.length : Int) (xr4 d k P) := hPS_r0.2.2.2.2.1
  have h1105 : PA4 T H r0 (P.length : Int) (xr5 d k P) := hPS_r0.2.2.2.2.2.1
  have h1106 : PA5 T H r0 (P.length : Int) (xr6 d k P) := hPS_r0.2.2.2.2.2.2
  have _n := hPS_r0.1
  have _g := @getD_ap P (y1, y2)
  refine wp_of e48 c48_0 (rw_aload_n (pc' := 1) (v := .ref r0) rfl rfl rfl ?_)
  refine wp_of e48 c48_1 (xg_I (pc' := 4) lf_8_49 hW g0 sh_35 (by decide) (by decide) ty_35_15 rfl rfl (fun b1107 b1108 => ?_))
  refine wp_of e48 c48_4 (rw_bipush (pc' := 6) (z := 40) rfl (by decide) ?_)
  refine wp_of e48 c48_6 (rw_icmp_lt (p1 := 10) (p2 := 9) (by decide) rfl ⟨Int.le_trans (by decide) b1107, Int.le_trans b1108 (by decide)⟩ ⟨by decide, by decide⟩ (fun c1109 => ?_) (fun c1109 => ?_))
  · refine wp_of e48 c48_10 (rw_aload_n (pc' := 11) (v := .ref r0) rfl rfl rfl ?_)
    refine wp_of e48 c48_11 (xg_R (pc' := 14) lf_8_9 hW g0 sh_35 (by decide) (by decide) ty_35_0 rfl rfl (fun r1110 q1111 g1112 => ?_))
    refine wp_of e48 c48_14 (rw_aload_n (pc' := 15) (v := .ref r0) rfl rfl rfl ?_)
    refine wp_of e48 c48_15 (xg_I (pc' := 18) lf_8_49 hW g0 sh_35 (by decide) (by decide) ty_35_15 rfl rfl (fun b1113 b1114 => ?_))
    refine wp_of e48 c48_18 (rw_iload_n (pc' := 19) (z := a1) rfl rfl ?_)
    refine wp_of e48 c48_19 (xs_I (pc' := 20) hW g1112 (by decide) sh_36 (by decide) (ty_36 _) (i1.1) (i1.2) ⟨Int.le_trans (by decide) i1.1, Int.le_trans i1.2 (by decide)⟩ (b1113) (by omega) rfl (fun H1115 e1116 w1117 => ?_))
    have f1118 := f0.put' e1116 g1112 rfl
    have h1119 : PA0 T H1115 r0 ((P.length : Int) + 1) (xr1 (P ++ [(y1, y2)])) := DAo_put h1101 q1111 g0 g1112 (by decide) e1116 (k := ((H r0 15).toNat)) (by omega) rfl (by
      rw [show ((H r0 15).toNat) = P.length by omega]
      show ((P ++ [(y1, y2)]).getD P.length (0, 0)).1 = _
      rw [_g.1]
      omega) (fun j hj => by
      show ((P ++ [(y1, y2)]).getD j (0, 0)).1 = (P.getD j (0, 0)).1
      rw [_g.2 j (by omega)])
    refine wp_of e48 c48_20 (rw_aload_n (pc' := 21) (v := .ref r0) rfl rfl rfl ?_)
    refine wp_of e48 c48_21 (xg_R (pc' := 24) lf_8_15 w1117 g0 sh_35 (by decide) (by decide) ty_35_1 rfl rfl (fun r1120 q1121 g1122 => ?_))
    refine wp_of e48 c48_24 (rw_aload_n (pc' := 25) (v := .ref r0) rfl rfl rfl ?_)
    have k1123 : H1115 r0 15 = H r0 15 := (wq_u_t e1116 g1112 g0 rfl 15)
    refine wp_of e48 c48_25 (xg_I (pc' := 28) lf_8_49 w1117 g0 sh_35 (by decide) (by decide) ty_35_15 rfl rfl (fun b1124 b1125 => ?_))
    refine wp_of e48 c48_28 (rw_iload_n (pc' := 29) (z := a2) rfl rfl ?_)
    have h1126 : PA1 T H1115 r0 (P.length : Int) (xr2 P) := (PA1_fr hW g0 ((wfr.rf (l := [(36, 999)])).put' e1116 g1112 rfl) rfl h1102)
    refine wp_of e48 c48_29 (xs_I (pc' := 30) w1117 g1122 (by decide) sh_37 (by decide) (ty_37 _) (i2.1) (i2.2) ⟨Int.le_trans (by decide) i2.1, Int.le_trans i2.2 (by decide)⟩ (b1124) (by omega) rfl (fun H1127 e1128 w1129 => ?_))
    have f1130 := f1118.put' e1128 g1122 rfl
    have h1131 : PA1 T H1127 r0 ((P.length : Int) + 1) (xr2 (P ++ [(y1, y2)])) := DAo_put h1126 q1121 g0 g1122 (by decide) e1128 (k := ((H1115 r0 15).toNat)) (by omega) rfl (by
      rw [show ((H1115 r0 15).toNat) = P.length by omega]
      show ((P ++ [(y1, y2)]).getD P.length (0, 0)).2 = _
      rw [_g.1]
      omega) (fun j hj => by
      show ((P ++ [(y1, y2)]).getD j (0, 0)).2 = (P.getD j (0, 0)).2
      rw [_g.2 j (by omega)])
    refine wp_of e48 c48_30 (rw_aload_n (pc' := 31) (v := .ref r0) rfl rfl rfl ?_)
    refine wp_of e48 c48_31 (xg_R (pc' := 34) lf_8_18 w1129 g0 sh_35 (by decide) (by decide) ty_35_2 rfl rfl (fun r1132 q1133 g1134 => ?_))
    refine wp_of e48 c48_34 (rw_aload_n (pc' := 35) (v := .ref r0) rfl rfl rfl ?_)
    have k1135 : H1127 r0 15 = H1115 r0 15 := (wq_u_t e1128 g1122 g0 rfl 15)
    refine wp_of e48 c48_35 (xg_I (pc' := 38) lf_8_49 w1129 g0 sh_35 (by decide) (by decide) ty_35_15 rfl rfl (fun b1136 b1137 => ?_))
    refine wp_of e48 c48_38 (rw_iload_n (pc' := 39) (z := a3) rfl rfl ?_)
    have h1138 : PA2 T H1127 r0 (P.length : Int) (xr3 d k P) := (PA2_fr w1117 g0 ((wfr.rf (l := [(37, 999)])).put' e1128 g1122 rfl) rfl (PA2_fr hW g0 ((wfr.rf (l := [(36, 999)])).put' e1116 g1112 rfl) rfl h1103))
    refine wp_of e48 c48_39 (xs_I (pc' := 40) w1129 g1134 (by decide) sh_38 (by decide) (ty_38 _) (i3.1) (i3.2) ⟨i3.1, i3.2⟩ (b1136) (by omega) rfl (fun H1139 e1140 w1141 => ?_))
    have f1142 := f1130.put' e1140 g1134 rfl
    have h1143 : PA2 T H1139 r0 ((P.length : Int) + 1) (xr3 d k (P ++ [(y1, y2)])) := DAo_put h1138 q1133 g0 g1134 (by decide) e1140 (k := ((H1127 r0 15).toNat)) (by omega) rfl (by
      rw [show ((H1127 r0 15).toNat) = P.length by omega]
      show xas d k ((P ++ [(y1, y2)]).getD P.length (0, 0)) = _
      rw [_g.1]
      omega) (fun j hj => by
      show xas d k ((P ++ [(y1, y2)]).getD j (0, 0)) = xas d k (P.getD j (0, 0))
      rw [_g.2 j (by omega)])
    refine wp_of e48 c48_40 (rw_aload_n (pc' := 41) (v := .ref r0) rfl rfl rfl ?_)
    refine wp_of e48 c48_41 (xg_R (pc' := 44) lf_8_21 w1141 g0 sh_35 (by decide) (by decide) ty_35_3 rfl rfl (fun r1144 q1145 g1146 => ?_))
    refine wp_of e48 c48_44 (rw_aload_n (pc' := 45) (v := .ref r0) rfl rfl rfl ?_)
    have k1147 : H1139 r0 15 = H1127 r0 15 := (wq_u_t e1140 g1134 g0 rfl 15)
    refine wp_of e48 c48_45 (xg_I (pc' := 48) lf_8_49 w1141 g0 sh_35 (by decide) (by decide) ty_35_15 rfl rfl (fun b1148 b1149 => ?_))
    refine wp_of e48 c48_48 (rw_iload (pc' := 50) (z := a4) rfl rfl ?_)
    have h1150 : PA3 T H1139 r0 (P.length : Int) (xr4 d k P) := (PA3_fr w1129 g0 ((wfr.rf (l := [(38, 999)])).put' e1140 g1134 rfl) rfl (PA3_fr w1117 g0 ((wfr.rf (l := [(37, 999)])).put' e1128 g1122 rfl) rfl (PA3_fr hW g0 ((wfr.rf (l := [(36, 999)])).put' e1116 g1112 rfl) rfl h1104)))
    refine wp_of e48 c48_50 (xs_I (pc' := 51) w1141 g1146 (by decide) sh_39 (by decide) (ty_39 _) (i4.1) (i4.2) ⟨i4.1, i4.2⟩ (b1148) (by omega) rfl (fun H1151 e1152 w1153 => ?_))
    have f1154 := f1142.put' e1152 g1146 rfl
    have h1155 : PA3 T H1151 r0 ((P.length : Int) + 1) (xr4 d k (P ++ [(y1, y2)])) := DAo_put h1150 q1145 g0 g1146 (by decide) e1152 (k := ((H1139 r0 15).toNat)) (by omega) rfl (by
      rw [show ((H1139 r0 15).toNat) = P.length by omega]
      show xwk d k ((P ++ [(y1, y2)]).getD P.length (0, 0)) = _
      rw [_g.1]
      omega) (fun j hj => by
      show xwk d k ((P ++ [(y1, y2)]).getD j (0, 0)) = xwk d k (P.getD j (0, 0))
      rw [_g.2 j (by omega)])
    refine wp_of e48 c48_51 (rw_aload_n (pc' := 52) (v := .ref r0) rfl rfl rfl ?_)
    refine wp_of e48 c48_52 (xg_R (pc' := 55) lf_8_24 w1153 g0 sh_35 (by decide) (by decide) ty_35_4 rfl rfl (fun r1156 q1157 g1158 => ?_))
    refine wp_of e48 c48_55 (rw_aload_n (pc' := 56) (v := .ref r0) rfl rfl rfl ?_)
    have k1159 : H1151 r0 15 = H1139 r0 15 := (wq_u_t e1152 g1146 g0 rfl 15)
    refine wp_of e48 c48_56 (xg_I (pc' := 59) lf_8_49 w1153 g0 sh_35 (by decide) (by decide) ty_35_15 rfl rfl (fun b1160 b1161 => ?_))
    refine wp_of e48 c48_59 (rw_iload (pc' := 61) (z := a4) rfl rfl ?_)
    refine wp_of e48 c48_61 (xc_S (pc' := 64) (as := [vI a4]) (st := [vI (H1151 r0 15), .ref r1156]) (lm_8_78) rfl rfl (Nat.le_of_ble_eq_true rfl) rfl (by decide) (u_49  w1153 ⟨i4.1, i4.2⟩) (fun R1162 T1163 H1164 p1165 => ?_))
    obtain ⟨e1166, e1168, z1169, e1167, b1170, p1171⟩ := p1165
    subst e1166
    subst e1167
    subst e1168
    show wp _ _ 48 64 [(0, .ref r0), (1, vI a1), (2, vI a2), (3, vI a3), (4, vI a4)] [vL z1169, vI (H1151 r0 15), .ref r1156] _ H1151 _
    have h1173 : PA4 T H1151 r0 (P.length : Int) (xr5 d k P) := (PA4_fr w1141 g0 ((wfr.rf (l := [(39, 999)])).put' e1152 g1146 rfl) rfl (PA4_fr w1129 g0 ((wfr.rf (l := [(38, 999)])).put' e1140 g1134 rfl) rfl (PA4_fr w1117 g0 ((wfr.rf (l := [(37, 999)])).put' e1128 g1122 rfl) rfl (PA4_fr hW g0 ((wfr.rf (l := [(36, 999)])).put' e1116 g1112 rfl) rfl h1105))))
    refine wp_of e48 c48_64 (xs_L (pc' := 65) w1153 g1158 (by decide) sh_40 (by decide) (ty_40 _) (b1170.1) (b1170.2) ⟨b1170.1, b1170.2⟩ (b1160) (by omega) rfl (fun H1174 e1175 w1176 => ?_))
    have f1177 := f1154.put' e1175 g1158 rfl
    have h1178 : PA4 T H1174 r0 ((P.length : Int) + 1) (xr5 d k (P ++ [(y1, y2)])) := DAo_put h1173 q1157 g0 g1158 (by decide) e1175 (k := ((H1151 r0 15).toNat)) (by omega) rfl (by
      rw [show ((H1151 r0 15).toNat) = P.length by omega]
      show xtal (xwk d k ((P ++ [(y1, y2)]).getD P.length (0, 0))) 12 = _
      rw [_g.1, ← p4]
      omega) (fun j hj => by
      show xtal (xwk d k ((P ++ [(y1, y2)]).getD j (0, 0))) 12 = xtal (xwk d k (P.getD j (0, 0))) 12
      rw [_g.2 j (by omega)])
    refine wp_of e48 c48_65 (rw_aload_n (pc' := 66) (v := .ref r0) rfl rfl rfl ?_)
    refine wp_of e48 c48_66 (xg_R (pc' := 69) lf_8_28 w1176 g0 sh_35 (by decide) (by decide) ty_35_5 rfl rfl (fun r1179 q1180 g1181 => ?_))
    refine wp_of e48 c48_69 (rw_aload_n (pc' := 70) (v := .ref r0) rfl rfl rfl ?_)
    have k1182 : H1174 r0 15 = H1151 r0 15 := (wq_u_t e1175 g1158 g0 rfl 15)
    refine wp_of e48 c48_70 (xg_I (pc' := 73) lf_8_49 w1176 g0 sh_35 (by decide) (by decide) ty_35_15 rfl rfl (fun b1183 b1184 => ?_))
    refine wp_of e48 c48_73 (rw_iload (pc' := 75) (z := a4) rfl rfl ?_)
    refine wp_of e48 c48_75 (rw_bipush (pc' := 77) (z := 12) rfl (by decide) ?_)
    refine wp_of e48 c48_77 (rw_ishr (pc' := 78) rfl ?_)
    obtain ⟨v1185, e1186⟩ : ∃ x : Int, x = wq_shr a4 12 := ⟨_, rfl⟩
    rw [← e1186]
    have b1187 : -2147483648 ≤ v1185 ∧ v1185 ≤ 2147483647 := by
      rw [e1186]
      exact wI_shr _ _
    refine wp_of e48 c48_78 (xc_S (pc' := 81) (as := [vI v1185]) (st := [vI (H1174 r0 15), .ref r1179]) (lm_8_78) rfl rfl (Nat.le_of_ble_eq_true rfl) rfl (by decide) (u_49  w1176 ⟨b1187.1, b1187.2⟩) (fun R1188 T1189 H1190 p1191 => ?_))
    obtain ⟨e1192, e1194, z1195, e1193, b1196, p1197⟩ := p1191
    subst e1192
    subst e1193
    subst e1194
    show wp _ _ 48 81 [(0, .ref r0), (1, vI a1), (2, vI a2), (3, vI a3), (4, vI a4)] [vL z1195, vI (H1174 r0 15), .ref r1179] _ H1174 _
    have _l : z1195 = xtal (wq_shr a4 12) 12 := by
      rw [← e1186]
      omega
    have h1199 : PA5 T H1174 r0 (P.length : Int) (xr6 d k P) := (PA5_fr w1153 g0 ((wfr.rf (l := [(40, 999)])).put' e1175 g1158 rfl) rfl (PA5_fr w1141 g0 ((wfr.rf (l := [(39, 999)])).put' e1152 g1146 rfl) rfl (PA5_fr w1129 g0 ((wfr.rf (l := [(38, 999)])).put' e1140 g1134 rfl) rfl (PA5_fr w1117 g0 ((wfr.rf (l := [(37, 999)])).put' e1128 g1122 rfl) rfl (PA5_fr hW g0 ((wfr.rf (l := [(36, 999)])).put' e1116 g1112 rfl) rfl h1106)))))
    refine wp_of e48 c48_81 (xs_L (pc' := 82) w1176 g1181 (by decide) sh_41 (by decide) (ty_41 _) (b1196.1) (b1196.2) ⟨b1196.1, b1196.2⟩ (b1183) (by omega) rfl (fun H1200 e1201 w1202 => ?_))
    have f1203 := f1177.put' e1201 g1181 rfl
    have h1204 : PA5 T H1200 r0 ((P.length : Int) + 1) (xr6 d k (P ++ [(y1, y2)])) := DAo_put h1199 q1180 g0 g1181 (by decide) e1201 (k := ((H1174 r0 15).toNat)) (by omega) rfl (by
      rw [show ((H1174 r0 15).toNat) = P.length by omega]
      show xtal (wq_shr (xwk d k ((P ++ [(y1, y2)]).getD P.length (0, 0))) 12) 12 = _
      rw [_g.1, ← p4]
      omega) (fun j hj => by
      show xtal (wq_shr (xwk d k ((P ++ [(y1, y2)]).getD j (0, 0))) 12) 12 = xtal (wq_shr (xwk d k (P.getD j (0, 0))) 12) 12
      rw [_g.2 j (by omega)])
    refine wp_of e48 c48_82 (rw_aload_n (pc' := 83) (v := .ref r0) rfl rfl rfl ?_)
    refine wp_of e48 c48_83 (rw_dup (pc' := 84) rfl rfl ?_)
    have k1205 : H1200 r0 15 = H1174 r0 15 := (wq_u_t e1201 g1181 g0 rfl 15)
    refine wp_of e48 c48_84 (xg_I (pc' := 87) lf_8_49 w1202 g0 sh_35 (by decide) (by decide) ty_35_15 rfl rfl (fun b1206 b1207 => ?_))
    refine wp_of e48 c48_87 (rw_iconst (pc' := 88) rfl ?_)
    refine wp_of e48 c48_88 (rw_iadd (pc' := 89) rfl ?_)
    refine wp_of e48 c48_89 (xp_I (pc' := 92) lf_8_49 w1202 g0 sh_35 (by decide) (by decide) ty_35_15 rfl rfl (by omega) (by omega) ⟨by omega, by omega⟩ rfl (fun H1208 e1209 w1210 => ?_))
    have f1211 := f1203.put' e1209 g0 rfl
    have k1212 : H1208 r0 15 = (H1200 r0 15) + 1 := wq_u_s e1209
    have h1213 : PA0 T H1208 r0 ((P.length : Int) + 1) (xr1 (P ++ [(y1, y2)])) := (PA0_fr w1202 g0 ((wfr.rf (l := [(35, 15)])).put' e1209 g0 rfl) rfl (PA0_fr w1176 g0 ((wfr.rf (l := [(41, 999)])).put' e1201 g1181 rfl) rfl (PA0_fr w1153 g0 ((wfr.rf (l := [(40, 999)])).put' e1175 g1158 rfl) rfl (PA0_fr w1141 g0 ((wfr.rf (l := [(39, 999)])).put' e1152 g1146 rfl) rfl (PA0_fr w1129 g0 ((wfr.rf (l := [(38, 999)])).put' e1140 g1134 rfl) rfl (PA0_fr w1117 g0 ((wfr.rf (l := [(37, 999)])).put' e1128 g1122 rfl) rfl h1119))))))
    have h1214 : PA1 T H1208 r0 ((P.length : Int) + 1) (xr2 (P ++ [(y1, y2)])) := (PA1_fr w1202 g0 ((wfr.rf (l := [(35, 15)])).put' e1209 g0 rfl) rfl (PA1_fr w1176 g0 ((wfr.rf (l := [(41, 999)])).put' e1201 g1181 rfl) rfl (PA1_fr w1153 g0 ((wfr.rf (l := [(40, 999)])).put' e1175 g1158 rfl) rfl (PA1_fr w1141 g0 ((wfr.rf (l := [(39, 999)])).put' e1152 g1146 rfl) rfl (PA1_fr w1129 g0 ((wfr.rf (l := [(38, 999)])).put' e1140 g1134 rfl) rfl h1131)))))
    have h1215 : PA2 T H1208 r0 ((P.length : Int) + 1) (xr3 d k (P ++ [(y1, y2)])) := (PA2_fr w1202 g0 ((wfr.rf (l := [(35, 15)])).put' e1209 g0 rfl) rfl (PA2_fr w1176 g0 ((wfr.rf (l := [(41, 999)])).put' e1201 g1181 rfl) rfl (PA2_fr w1153 g0 ((wfr.rf (l := [(40, 999)])).put' e1175 g1158 rfl) rfl (PA2_fr w1141 g0 ((wfr.rf (l := [(39, 999)])).put' e1152 g1146 rfl) rfl h1143))))
    have h1216 : PA3 T H1208 r0 ((P.length : Int) + 1) (xr4 d k (P ++ [(y1, y2)])) := (PA3_fr w1202 g0 ((wfr.rf (l := [(35, 15)])).put' e1209 g0 rfl) rfl (PA3_fr w1176 g0 ((wfr.rf (l := [(41, 999)])).put' e1201 g1181 rfl) rfl (PA3_fr w1153 g0 ((wfr.rf (l := [(40, 999)])).put' e1175 g1158 rfl) rfl h1155)))
    have h1217 : PA4 T H1208 r0 ((P.length : Int) + 1) (xr5 d k (P ++ [(y1, y2)])) := (PA4_fr w1202 g0 ((wfr.rf (l := [(35, 15)])).put' e1209 g0 rfl) rfl (PA4_fr w1176 g0 ((wfr.rf (l := [(41, 999)])).put' e1201 g1181 rfl) rfl h1178))
    have h1218 : PA5 T H1208 r0 ((P.length : Int) + 1) (xr6 d k (P ++ [(y1, y2)])) := (PA5_fr w1202 g0 ((wfr.rf (l := [(35, 15)])).put' e1209 g0 rfl) rfl h1204)
    exact wp_return e48 c48_92 rfl ⟨rfl, w1210, f1211, rfl, (by first | exact PS_mk (by omega) h1213 h1214 h1215 h1216 h1217 h1218 | (exfalso; omega))⟩
  · exact wp_return e48 c48_9 rfl ⟨rfl, hW, f0, rfl, (by first | exact PS_mk (by omega) h1101 h1102 h1103 h1104 h1105 h1106 | (exfalso; omega))⟩
/-! StrikeAwake$Person.makeSpans(II)V  -/
abbrev uq_47 (r0 : Nat) (a1 : Int) (a2 : Int) (d : xD) (k : Nat) (T : wq_T) (H : wq_H) : Option Value → wq_T → wq_H → Prop := fun r T' H' => T = T' ∧ WT T H' ∧ wfr [(35, 15), (38, 999), (39, 999), (36, 999), (40, 999), (41, 999), (37, 999)] T H H' ∧ none = r ∧ ((PS T H' r0 d k (xsp d k)))
set_option maxHeartbeats 4000000 in
theorem u_47 {kt : Nat → Option mc_E} {T : wq_T} {H : wq_H} {r0 : Nat} {a1 : Int} {a2 : Int} {d : xD} {k : Nat} (hW : WT T H) (g0 : T.2.2.2 r0 = some 35) (i1 : 0 ≤ a1 ∧ a1 ≤ 16777215) (i2 : 0 ≤ a2 ∧ a2 ≤ 16777215) (p0 : a1 = xal d) (p1 : a2 = xmu d k) (p2 : H r0 15 = 0) (hPX_r0 : PX T H r0 d k) : wpc kt 3 47 [.ref r0, vI a1, vI a2] T H (uq_47 r0 a1 a2 d k T H) := by
  refine wp_enter e47 (Nat.le_of_ble_eq_true rfl) rfl ?_
  have f0 : wfr [(35, 15), (38, 999), (39, 999), (36, 999), (40, 999), (41, 999), (37, 999)] T H H := wfr.rf
  show wp _ _ 47 0 [(0, .ref r0), (1, vI a1), (2, vI a2)] [] _ H _
  have u1403 := PX_k hPX_r0
  have h1404 : PS T H r0 d k [] := PS_0 hW g0 p2
  have _p := hPX_r0
  have _k := PX_k hPX_r0
  refine wp_of e47 c47_0 (rw_aload_n (pc' := 1) (v := .ref r0) rfl rfl rfl ?_)
  refine wp_of e47 c47_1 (xg_I (pc' := 4) lf_8_42 hW g0 sh_35 (by decide) (by decide) ty_35_13 rfl rfl (fun b1405 b1406 => ?_))
  refine wp_of e47 c47_4 (rw_if_eq (p1 := 16) (p2 := 7) (by decide) rfl ⟨Int.le_trans (by decide) b1405, Int.le_trans b1406 (by decide)⟩ (fun c1407 => ?_) (fun c1407 => ?_))
  · have _b := fun x => @xas_not d k (by omega) x
    refine wp_of e47 c47_16 (rw_aload_n (pc' := 17) (v := .ref r0) rfl rfl rfl ?_)
    refine wp_of e47 c47_17 (xg_I (pc' := 20) lf_8_62 hW g0 sh_35 (by decide) (by decide) ty_35_7 rfl rfl (fun b1408 b1409 => ?_))
    refine wp_of e47 c47_20 (rw_istore_n (pc' := 21) (z := H r0 7) (L' := [(3, vI (H r0 7)), (0, .ref r0), (1, vI a1), (2, vI a2)]) rfl rfl rfl ?_)
    have lp1666 : ∀ (n1667 : Nat) (v1669 : Int) (H1670 : wq_H) (P1671 : List (Int × Int)), WT T H1670 → wfr [(35, 15), (38, 999), (39, 999), (36, 999), (40, 999), (41, 999), (37, 999)] T H H1670 → (0 ≤ v1669 ∧ v1669 ≤ 24) → PS T H1670 r0 d k P1671 → (xfo d k P1671 v1669) → (d 2 k ≤ v1669) → (24 - v1669).toNat = n1667 → wp kt 2 47 21 [(3, vI v1669), (0, .ref r0), (1, vI a1), (2, vI a2)] [] T H1670 (uq_47 r0 a1 a2 d k T H) := by
      intro n1667
      induction n1667 using Nat.strongRecOn with
      | _ n1667 ih1668 =>
        intro v1669 H1670 P1671 w1672 f1673 b1674 h1676 x1677 x1678 m1675
        have f1679 := f0.tr f1673 rfl
        refine wp_of e47 c47_21 (rw_iload_n (pc' := 22) (z := v1669) rfl rfl ?_)
        refine wp_of e47 c47_22 (rw_aload_n (pc' := 23) (v := .ref r0) rfl rfl rfl ?_)
        have k1680 : H1670 r0 8 = H r0 8 := (f1673 r0 8 _ g0 rfl)
        refine wp_of e47 c47_23 (xg_I (pc' := 26) lf_8_65 w1672 g0 sh_35 (by decide) (by decide) ty_35_8 rfl rfl (fun b1681 b1682 => ?_))
        refine wp_of e47 c47_26 (rw_icmp_gt (p1 := 95) (p2 := 29) (by decide) rfl ⟨Int.le_trans (by decide) b1674.1, Int.le_trans b1674.2 (by decide)⟩ ⟨Int.le_trans (by decide) b1681, Int.le_trans b1682 (by decide)⟩ (fun c1683 => ?_) (fun c1683 => ?_))
        · exact wp_return e47 c47_95 rfl ⟨rfl, w1672, f1679, rfl, (PS_eq h1676 (by first | exact xsp_away (by omega) | exact xfo_e ‹_› (by omega)))⟩
        · refine wp_of e47 c47_29 (rw_aload_n (pc' := 30) (v := .ref r0) rfl rfl rfl ?_)
          have k1684 : H1670 r0 9 = H r0 9 := (f1673 r0 9 _ g0 rfl)
          refine wp_of e47 c47_30 (xg_I (pc' := 33) lf_8_68 w1672 g0 sh_35 (by decide) (by decide) ty_35_9 rfl rfl (fun b1685 b1686 => ?_))
          refine wp_of e47 c47_33 (rw_istore (pc' := 35) (z := H1670 r0 9) (L' := [(4, vI (H1670 r0 9)), (3, vI v1669), (0, .ref r0), (1, vI a1), (2, vI a2)]) rfl rfl rfl ?_)
          have lp1769 : ∀ (n1770 : Nat) (v1772 : Int) (H1773 : wq_H) (P1774 : List (Int × Int)), WT T H1773 → wfr [(35, 15), (38, 999), (39, 999), (36, 999), (40, 999), (41, 999), (37, 999)] T H1670 H1773 → (0 ≤ v1772 ∧ v1772 ≤ 17) → PS T H1773 r0 d k P1774 → (xfn d k P1774 v1669 v1772) → (17 - v1772).toNat = n1770 → wp kt 2 47 35 [(4, vI v1772), (3, vI v1669), (0, .ref r0), (1, vI a1), (2, vI a2)] [] T H1773 (uq_47 r0 a1 a2 d k T H) := by
            intro n1770
            induction n1770 using Nat.strongRecOn with
            | _ n1770 ih1771 =>
              intro v1772 H1773 P1774 w1775 f1776 b1777 h1779 x1780 m1778
              have f1781 := f1679.tr f1776 rfl
              have f1782 := f1673.tr f1776 rfl
              refine wp_of e47 c47_35 (rw_iload (pc' := 37) (z := v1772) rfl rfl ?_)
              refine wp_of e47 c47_37 (rw_aload_n (pc' := 38) (v := .ref r0) rfl rfl rfl ?_)
              have k1783 : H1773 r0 10 = H r0 10 := ((f1776 r0 10 _ g0 rfl).trans (f1673 r0 10 _ g0 rfl))
              refine wp_of e47 c47_38 (xg_I (pc' := 41) lf_8_71 w1775 g0 sh_35 (by decide) (by decide) ty_35_10 rfl rfl (fun b1784 b1785 => ?_))
              refine wp_of e47 c47_41 (rw_icmp_gt (p1 := 89) (p2 := 44) (by decide) rfl ⟨Int.le_trans (by decide) b1777.1, Int.le_trans b1777.2 (by decide)⟩ ⟨Int.le_trans (by decide) b1784, Int.le_trans b1785 (by decide)⟩ (fun c1786 => ?_) (fun c1786 => ?_))
              · refine wp_of e47 c47_89 (rw_iinc (pc' := 92) (z := v1669) (L' := [(3, vI (v1669 + 1)), (4, vI v1772), (0, .ref r0), (1, vI a1), (2, vI a2)]) rfl rfl rfl rfl ?_)
                refine wp_of e47 c47_92 (rw_goto (p1 := 21) (by decide) ?_)
                exact wp_lc (ks := [3, 4, 0, 1, 2]) (wl_c rfl (wl_c rfl (wl_c rfl (wl_c rfl wl_n)))) rfl (by decide) (ih1668 _ (by omega) (v1669 + 1) H1773 P1774 w1775 f1782 ⟨by omega, by omega⟩ h1779 (xfn_o ‹_› (by omega)) (by omega) rfl)
              · refine wp_of e47 c47_44 (rw_iload_n (pc' := 45) (z := v1669) rfl rfl ?_)
                refine wp_of e47 c47_45 (rw_iload_n (pc' := 46) (z := v1669) rfl rfl ?_)
                refine wp_of e47 c47_46 (rw_iload (pc' := 48) (z := v1772) rfl rfl ?_)
                refine wp_of e47 c47_48 (rw_iadd (pc' := 49) rfl ?_)
                refine wp_of e47 c47_49 (xc_S (pc' := 52) (as := [vI v1669, vI (v1669 + v1772)]) (st := []) (lm_8_74) rfl rfl (Nat.le_of_ble_eq_true rfl) rfl (by decide) (u_31 (lo := v1669) (hi := ((v1669 + v1772))) w1775 ⟨b1674.1, b1674.2⟩ ⟨by omega, by omega⟩ (by omega) (by omega) (by omega)) (fun R1787 T1788 H1789 p1790 => ?_))
                obtain ⟨e1791, e1793, z1794, e1792, b1795, p1796⟩ := p1790
                subst e1791
                subst e1792
                subst e1793
                show wp _ _ 47 52 [(4, vI v1772), (3, vI v1669), (0, .ref r0), (1, vI a1), (2, vI a2)] [vI z1794] _ H1773 _
                refine wp_of e47 c47_52 (rw_aload_n (pc' := 53) (v := .ref r0) rfl rfl rfl ?_)
                have k1798 : H1773 r0 12 = H r0 12 := ((f1776 r0 12 _ g0 rfl).trans (f1673 r0 12 _ g0 rfl))
                refine wp_of e47 c47_53 (xg_I (pc' := 56) lf_8_39 w1775 g0 sh_35 (by decide) (by decide) ty_35_12 rfl rfl (fun b1799 b1800 => ?_))
                refine wp_of e47 c47_56 (rw_ior (pc' := 57) rfl ?_)
                obtain ⟨v1801, e1802⟩ : ∃ x : Int, x = wq_or z1794 (H1773 r0 12) := ⟨_, rfl⟩
                rw [← e1802]
                have b1803 : -2147483648 ≤ v1801 ∧ v1801 ≤ 2147483647 := by
                  rw [e1802]
                  exact wI_or _ _
                refine wp_of e47 c47_57 (rw_iload_n (pc' := 58) (z := a1) rfl rfl ?_)
                refine wp_of e47 c47_58 (rw_iand (pc' := 59) rfl ?_)
                obtain ⟨v1804, e1805⟩ : ∃ x : Int, x = wq_and v1801 a1 := ⟨_, rfl⟩
                rw [← e1805]
                have b1806 : 0 ≤ v1804 ∧ v1804 ≤ a1 := by
                  rw [e1805]
                  exact wq_and_b _ (by omega) (by omega)
                refine wp_of e47 c47_59 (rw_istore (pc' := 61) (z := v1804) (L' := [(5, vI v1804), (4, vI v1772), (3, vI v1669), (0, .ref r0), (1, vI a1), (2, vI a2)]) rfl rfl rfl ?_)
                have _s : v1804 = xsl d k v1669 v1772 := xsl_e e1802 e1805 (by omega) (by omega) (by omega)
                refine wp_of e47 c47_61 (rw_iload (pc' := 63) (z := v1804) rfl rfl ?_)
                refine wp_of e47 c47_63 (rw_iload_n (pc' := 64) (z := a2) rfl rfl ?_)
                refine wp_of e47 c47_64 (rw_iand (pc' := 65) rfl ?_)
                obtain ⟨v1807, e1808⟩ : ∃ x : Int, x = wq_and v1804 a2 := ⟨_, rfl⟩
                rw [← e1808]
                have b1809 : 0 ≤ v1807 ∧ v1807 ≤ a2 := by
                  rw [e1808]
                  exact wq_and_b _ (by omega) (by omega)
                refine wp_of e47 c47_65 (rw_if_ne (p1 := 83) (p2 := 68) (by decide) rfl ⟨by omega, by omega⟩ (fun c1810 => ?_) (fun c1810 => ?_))
                · refine wp_of e47 c47_83 (rw_iinc (pc' := 86) (z := v1772) (L' := [(4, vI (v1772 + 1)), (5, vI v1804), (3, vI v1669), (0, .ref r0), (1, vI a1), (2, vI a2)]) rfl rfl rfl rfl ?_)
                  refine wp_of e47 c47_86 (rw_goto (p1 := 35) (by decide) ?_)
                  exact wp_lc (ks := [4, 5, 3, 0, 1, 2]) (wl_c rfl (wl_c rfl (wl_c rfl (wl_c rfl (wl_c rfl wl_n))))) rfl (by decide) (ih1771 _ (by omega) (v1772 + 1) H1773 P1774 w1775 f1776 ⟨by omega, by omega⟩ h1779 (by first | assumption | exact xfn_n ‹_› (by omega) (by rw [← _s, ← p1]; omega)) rfl)
                · have _o : wq_and (xsl d k v1669 v1772) (xmu d k) = 0 := by
                    rw [← _s, ← p1]
                    omega
                  have _r := xfn_room _p.2 ‹xfn d k P1774 v1669 v1772› (by omega) _o
                  have _y := xfn_y ‹xfn d k P1774 v1669 v1772› (by omega) _o
                  have _c : xas d k (v1669, v1772) = xsl d k v1669 v1772 ∧ xwk d k (v1669, v1772) = wq_and (xal d) (wq_xor (xsl d k v1669 v1772) (-1)) := _b (v1669, v1772)
                  refine wp_of e47 c47_68 (rw_aload_n (pc' := 69) (v := .ref r0) rfl rfl rfl ?_)
                  refine wp_of e47 c47_69 (rw_iload_n (pc' := 70) (z := v1669) rfl rfl ?_)
                  refine wp_of e47 c47_70 (rw_iload (pc' := 72) (z := v1772) rfl rfl ?_)
                  refine wp_of e47 c47_72 (rw_iload (pc' := 74) (z := v1804) rfl rfl ?_)
                  refine wp_of e47 c47_74 (rw_iload_n (pc' := 75) (z := a1) rfl rfl ?_)
                  refine wp_of e47 c47_75 (rw_iload (pc' := 77) (z := v1804) rfl rfl ?_)
                  refine wp_of e47 c47_77 (rw_iconst (pc' := 78) rfl ?_)
                  refine wp_of e47 c47_78 (rw_ixor (pc' := 79) rfl ?_)
                  obtain ⟨v1811, e1812⟩ : ∃ x : Int, x = wq_xor v1804 (-1) := ⟨_, rfl⟩
                  rw [← e1812]
                  have b1813 : -2147483648 ≤ v1811 ∧ v1811 ≤ 2147483647 := by
                    rw [e1812]
                    exact wI_xor _ _
                  refine wp_of e47 c47_79 (rw_iand (pc' := 80) rfl ?_)
                  obtain ⟨v1814, e1815⟩ : ∃ x : Int, x = wq_and a1 v1811 := ⟨_, rfl⟩
                  rw [← e1815]
                  have b1816 : 0 ≤ v1814 ∧ v1814 ≤ a1 := by
                    rw [e1815]
                    rw [wq_and_c]; exact wq_and_b _ (by omega) (by omega)
                  have _w : v1814 = xwk d k (v1669, v1772) := by
                    rw [_c.2, ← _s, ← p0, e1815, e1812]
                  refine wp_of e47 c47_80 (xc_V (pc' := 83) (r := r0) (as := [vI v1669, vI v1772, vI v1804, vI v1814]) (st := []) (lm_8_58) rfl rfl (Nat.le_of_ble_eq_true rfl) w1775 g0 sh_35 (by decide) rfl (by decide) (u_48 (d := d) (k := k) (P := P1774) (y1 := v1669) (y2 := v1772) w1775 g0 ⟨Int.le_trans (by decide) b1674.1, b1674.2⟩ ⟨Int.le_trans (by decide) b1777.1, Int.le_trans b1777.2 (by decide)⟩ ⟨by omega, by omega⟩ ⟨by omega, by omega⟩ (by omega) (by omega) (by omega) (by omega) (by omega) h1779) (fun R1817 T1818 H1819 p1820 => ?_))
                  obtain ⟨e1821, w1823, f1824, e1822, p1825⟩ := p1820
                  subst e1821
                  subst e1822
                  have f1827 := f1781.tr f1824 rfl
                  have f1828 := f1782.tr f1824 rfl
                  have f1829 := f1776.tr f1824 rfl
                  show wp _ _ 47 83 [(5, vI v1804), (4, vI v1772), (3, vI v1669), (0, .ref r0), (1, vI a1), (2, vI a2)] [] _ H1819 _
                  refine wp_of e47 c47_83 (rw_iinc (pc' := 86) (z := v1772) (L' := [(4, vI (v1772 + 1)), (5, vI v1804), (3, vI v1669), (0, .ref r0), (1, vI a1), (2, vI a2)]) rfl rfl rfl rfl ?_)
                  refine wp_of e47 c47_86 (rw_goto (p1 := 35) (by decide) ?_)
                  exact wp_lc (ks := [4, 5, 3, 0, 1, 2]) (wl_c rfl (wl_c rfl (wl_c rfl (wl_c rfl (wl_c rfl wl_n))))) rfl (by decide) (ih1771 _ (by omega) (v1772 + 1) H1819 ((P1774 ++ [(v1669, v1772)])) w1823 f1829 ⟨by omega, by omega⟩ p1825 (by first | assumption | exact xfn_n ‹_› (by omega) (by rw [← _s, ← p1]; omega)) rfl)
          exact wp_lc (ks := [4, 3, 0, 1, 2]) (wl_c rfl (wl_c rfl (wl_c rfl (wl_c rfl (wl_c rfl wl_n))))) rfl (by decide) (lp1769 _ (H1670 r0 9) H1670 P1671 w1672 wfr.rf ⟨by omega, by omega⟩ h1676 (xfo_i ‹_› (by omega) (by omega)) rfl)
    exact wp_lc (ks := [3, 0, 1, 2]) (wl_c rfl (wl_c rfl (wl_c rfl (wl_c rfl wl_n)))) rfl (by decide) (lp1666 _ (H r0 7) H ([]) hW wfr.rf ⟨by omega, b1409⟩ h1404 (xfo_0 (by omega) (by omega)) (by omega) rfl)
  · have _a := xas_away (d := d) (k := k) (by omega)
    have _zl : ((([] : List (Int × Int)).length : Nat) : Int) = 0 := rfl
    refine wp_of e47 c47_7 (rw_aload_n (pc' := 8) (v := .ref r0) rfl rfl rfl ?_)
    refine wp_of e47 c47_8 (rw_iconst (pc' := 9) rfl ?_)
    refine wp_of e47 c47_9 (rw_iconst (pc' := 10) rfl ?_)
    refine wp_of e47 c47_10 (rw_iconst (pc' := 11) rfl ?_)
    refine wp_of e47 c47_11 (rw_iconst (pc' := 12) rfl ?_)
    refine wp_of e47 c47_12 (xc_V (pc' := 15) (r := r0) (as := [vI 0, vI 0, vI 0, vI 0]) (st := []) (lm_8_58) rfl rfl (Nat.le_of_ble_eq_true rfl) hW g0 sh_35 (by decide) rfl (by decide) (u_48 (d := d) (k := k) (P := ([])) (y1 := 0) (y2 := 0) hW g0 ⟨by decide, by decide⟩ ⟨by decide, by decide⟩ ⟨by decide, by decide⟩ ⟨by decide, by decide⟩ (by omega) (by omega) (by omega) (by omega) (by omega) h1404) (fun R1830 T1831 H1832 p1833 => ?_))
    obtain ⟨e1834, w1836, f1837, e1835, p1838⟩ := p1833
    subst e1834
    subst e1835
    have f1840 := f0.tr f1837 rfl
    show wp _ _ 47 15 [(0, .ref r0), (1, vI a1), (2, vI a2)] [] _ H1832 _
    exact wp_return e47 c47_15 rfl ⟨rfl, w1836, f1840, rfl, (PS_eq p1838 (by first | exact xsp_away (by omega) | exact xfo_e ‹_› (by omega)))⟩
/-! StrikeAwake$Parish.allHours()I  -/
abbrev uq_45 (r0 : Nat) (T : wq_T) (H : wq_H) : Option Value → wq_T → wq_H → Prop := fun r T' H' => T = T' ∧ H = H' ∧ ∃ z : Int, some (vI z) = r ∧ (0 ≤ z ∧ z ≤ 16777215) ∧ (((z = xhs 0 (H r0 7))))
set_option maxHeartbeats 4000000 in
theorem u_45 {kt : Nat → Option mc_E} {T : wq_T} {H : wq_H} {r0 : Nat} (hW : WT T H) (g0 : T.2.2.2 r0 = some 27) : wpc kt 2 45 [.ref r0] T H (uq_45 r0 T H) := by
  refine wp_enter e45 (Nat.le_of_ble_eq_true rfl) rfl ?_
  show wp _ _ 45 0 [(0, .ref r0)] [] _ H _
  refine wp_of e45 c45_0 (rw_iconst (pc' := 1) rfl ?_)
  refine wp_of e45 c45_1 (rw_aload_n (pc' := 2) (v := .ref r0) rfl rfl rfl ?_)
  refine wp_of e45 c45_2 (xg_I (pc' := 5) lf_7_41 hW g0 sh_27 (by decide) (by decide) ty_27_7 rfl rfl (fun b1014 b1015 => ?_))
  refine wp_of e45 c45_5 (xc_S (pc' := 8) (as := [vI 0, vI (H r0 7)]) (st := []) (lm_7_92) rfl rfl (Nat.le_of_ble_eq_true rfl) rfl (by decide) (u_31 (lo := 0) (hi := ((H r0 7))) hW ⟨by decide, by decide⟩ ⟨b1014, Int.le_trans b1015 (by decide)⟩ (by omega) (by omega) (by omega)) (fun R1016 T1017 H1018 p1019 => ?_))
  obtain ⟨e1020, e1022, z1023, e1021, b1024, p1025⟩ := p1019
  subst e1020
  subst e1021
  subst e1022
  show wp _ _ 45 8 [(0, .ref r0)] [vI z1023] _ H _
  exact wp_ireturn e45 c45_8 rfl ⟨rfl, rfl, z1023, rfl, ⟨b1024.1, b1024.2⟩, (by omega)⟩
/-! StrikeAwake$Parish.hoursStruckUpTo(I)I  -/
abbrev uq_46 (r0 : Nat) (a1 : Int) (f : Nat → Int) (y : Int) (T : wq_T) (H : wq_H) : Option Value → wq_T → wq_H → Prop := fun r T' H' => T = T' ∧ H = H' ∧ ∃ z : Int, some (vI z) = r ∧ (0 ≤ z ∧ z ≤ 16777215) ∧ (((z = xob (fun h => decide (f h > 0 ∧ f h ≤ y + 1)) 24)))
set_option maxHeartbeats 4000000 in
theorem u_46 {kt : Nat → Option mc_E} {T : wq_T} {H : wq_H} {r0 : Nat} {a1 : Int} {f : Nat → Int} {y : Int} (hW : WT T H) (g0 : T.2.2.2 r0 = some 27) (i1 : (-2147483648) ≤ a1 ∧ a1 ≤ 2147483647) (p0 : a1 = y) (p1 : H r0 16 = xcn f 24) (hST_r0 : ST T H r0 f) (hSV_r0 : SV T H r0 f 24) : wpc kt 1 46 [.ref r0, vI a1] T H (uq_46 r0 a1 f y T H) := by
  refine wp_enter e46 (Nat.le_of_ble_eq_true rfl) rfl ?_
  show wp _ _ 46 0 [(0, .ref r0), (1, vI a1)] [] _ H _
  refine wp_of e46 c46_0 (rw_iconst (pc' := 1) rfl ?_)
  refine wp_of e46 c46_1 (rw_istore_n (pc' := 2) (z := 0) (L' := [(2, vI 0), (0, .ref r0), (1, vI a1)]) rfl rfl rfl ?_)
  refine wp_of e46 c46_2 (rw_iconst (pc' := 3) rfl ?_)
  refine wp_of e46 c46_3 (rw_istore_n (pc' := 4) (z := 0) (L' := [(3, vI 0), (2, vI 0), (0, .ref r0), (1, vI a1)]) rfl rfl rfl ?_)
  have lp1358 : ∀ (n1359 : Nat) (v1361 : Int) (v1362 : Int) (u1363 : Nat), (0 ≤ v1361 ∧ v1361 ≤ 24) → (0 ≤ v1362 ∧ v1362 ≤ 16777215) → (u1363 ≤ 24) → (xcn f u1363 = v1361) → (v1362 = xob (fun h => decide (f h > 0 ∧ f h ≤ y + 1)) u1363) → (24 - v1361).toNat = n1359 → wp kt 0 46 4 [(3, vI v1361), (2, vI v1362), (0, .ref r0), (1, vI a1)] [] T H (uq_46 r0 a1 f y T H) := by
    intro n1359
    induction n1359 using Nat.strongRecOn with
    | _ n1359 ih1360 =>
      intro v1361 v1362 u1363 b1366 b1367 x1369 x1370 x1371 m1368
      refine wp_of e46 c46_4 (rw_iload_n (pc' := 5) (z := v1361) rfl rfl ?_)
      refine wp_of e46 c46_5 (rw_aload_n (pc' := 6) (v := .ref r0) rfl rfl rfl ?_)
      refine wp_of e46 c46_6 (xg_I (pc' := 9) lf_7_65 hW g0 sh_27 (by decide) (by decide) ty_27_16 rfl rfl (fun b1372 b1373 => ?_))
      refine wp_of e46 c46_9 (rw_icmp_ge (p1 := 44) (p2 := 12) (by decide) rfl ⟨Int.le_trans (by decide) b1366.1, Int.le_trans b1366.2 (by decide)⟩ ⟨Int.le_trans (by decide) b1372, Int.le_trans b1373 (by decide)⟩ (fun c1374 => ?_) (fun c1374 => ?_))
      · have _z : v1362 = xob (fun h => decide (f h > 0 ∧ f h ≤ y + 1)) 24 := by
          rw [‹v1362 = xob (fun h => decide (f h > 0 ∧ f h ≤ y + 1)) u1363›]
          exact (xob_gap (by omega) (fun j p q => decide_eq_false (by have := xcn_mono (f := f) (m := u1363) j p; have := xcn_lt (f := f) (m := j) (n := 24) q; omega))).symm
        refine wp_of e46 c46_44 (rw_iload_n (pc' := 45) (z := v1362) rfl rfl ?_)
        exact wp_ireturn e46 c46_45 rfl ⟨rfl, rfl, v1362, rfl, ⟨b1367.1, b1367.2⟩, (_z)⟩
      · obtain ⟨h9, _a, _b, _c, _e, _f⟩ := xcn_nx (f := f) (u := u1363) 24 (by omega) (by omega)
        have _g : xob (fun h => decide (f h > 0 ∧ f h ≤ y + 1)) h9 = xob (fun h => decide (f h > 0 ∧ f h ≤ y + 1)) u1363 := xob_gap _a (fun j p q => decide_eq_false (by have := _f j p q; omega))
        have _n : xcn f (h9 + 1) = xcn f h9 + 1 := by
          show xcn f h9 + (if f h9 > 0 then 1 else 0) = _
          rw [if_pos _c]
        refine wp_of e46 c46_12 (rw_aload_n (pc' := 13) (v := .ref r0) rfl rfl rfl ?_)
        refine wp_of e46 c46_13 (xg_R (pc' := 16) lf_7_17 hW g0 sh_27 (by decide) (by decide) ty_27_1 rfl rfl (fun r1375 q1376 g1377 => ?_))
        refine wp_of e46 c46_16 (rw_aload_n (pc' := 17) (v := .ref r0) rfl rfl rfl ?_)
        refine wp_of e46 c46_17 (xg_R (pc' := 20) lf_7_21 hW g0 sh_27 (by decide) (by decide) ty_27_2 rfl rfl (fun r1378 q1379 g1380 => ?_))
        have _v := SV_at hSV_r0 q1379 (h := h9) (by omega) _c
        rw [show xcn f h9 = v1361 by omega] at _v
        refine wp_of e46 c46_20 (rw_iload_n (pc' := 21) (z := v1361) rfl rfl ?_)
        refine wp_of e46 c46_21 (xa_I (so := 0) (pc' := 22) hW g1380 sh_30 (by decide) (ty_30 _) (b1366.1) (by omega) rfl (fun b1381 b1382 => ?_))
        refine wp_of e46 c46_22 (xa_I (so := 0) (pc' := 23) hW g1377 sh_29 (by decide) (ty_29 _) (b1381) (Int.lt_of_le_of_lt b1382 (by decide)) rfl (fun b1383 b1384 => ?_))
        have := ST_at2 hST_r0 q1376 (k := ((H r1378 (v1361.toNat)).toNat)) (h := h9) (by omega) (by omega)
        refine wp_of e46 c46_23 (rw_iload_n (pc' := 24) (z := a1) rfl rfl ?_)
        refine wp_of e46 c46_24 (rw_icmp_gt (p1 := 38) (p2 := 27) (by decide) rfl ⟨b1383, b1384⟩ ⟨i1.1, i1.2⟩ (fun c1385 => ?_) (fun c1385 => ?_))
        · have _q : v1362 = xob (fun h => decide (f h > 0 ∧ f h ≤ y + 1)) (h9 + 1) := xob_pn (by assumption) _g (decide_eq_false (by omega))
          refine wp_of e46 c46_38 (rw_iinc (pc' := 41) (z := v1361) (L' := [(3, vI (v1361 + 1)), (2, vI v1362), (0, .ref r0), (1, vI a1)]) rfl rfl rfl rfl ?_)
          refine wp_of e46 c46_41 (rw_goto (p1 := 4) (by decide) ?_)
          exact wp_lc (ks := [3, 2, 0, 1]) (wl_c rfl (wl_c rfl (wl_c rfl (wl_c rfl wl_n)))) rfl (by decide) (ih1360 _ (by omega) (v1361 + 1) v1362 ((h9 + 1)) ⟨by omega, by omega⟩ ⟨b1367.1, b1367.2⟩ (by omega) (by omega) (_q) rfl)
        · refine wp_of e46 c46_27 (rw_iload_n (pc' := 28) (z := v1362) rfl rfl ?_)
          refine wp_of e46 c46_28 (rw_iconst (pc' := 29) rfl ?_)
          refine wp_of e46 c46_29 (rw_aload_n (pc' := 30) (v := .ref r0) rfl rfl rfl ?_)
          refine wp_of e46 c46_30 (xg_K (pc' := 33) lf_7_21 hW g0 sh_27 (by decide) (by decide) rfl q1379 rfl ?_)
          refine wp_of e46 c46_33 (rw_iload_n (pc' := 34) (z := v1361) rfl rfl ?_)
          refine wp_of e46 c46_34 (xa_I (so := 0) (pc' := 35) hW g1380 sh_30 (by decide) (ty_30 _) (b1366.1) (by omega) rfl (fun b1386 b1387 => ?_))
          refine wp_of e46 c46_35 (rw_ishl (pc' := 36) rfl ?_)
          obtain ⟨v1388, e1389⟩ : ∃ x : Int, x = wq_shl 1 (H r1378 (v1361.toNat)) := ⟨_, rfl⟩
          rw [← e1389]
          have b1390 : 1 ≤ v1388 ∧ v1388 ≤ 8388608 := by
            rw [e1389]
            exact wq_shl1_24 ⟨by omega, by omega⟩
          refine wp_of e46 c46_36 (rw_ior (pc' := 37) rfl ?_)
          obtain ⟨v1391, e1392⟩ : ∃ x : Int, x = wq_or v1362 v1388 := ⟨_, rfl⟩
          rw [← e1392]
          have b1393 : 0 ≤ v1391 ∧ v1391 ≤ 16777215 := by
            rw [e1392]
            exact wq_or_24 ⟨by omega, by omega⟩ ⟨by omega, by omega⟩
          refine wp_of e46 c46_37 (rw_istore_n (pc' := 38) (z := v1391) (L' := [(2, vI v1391), (3, vI v1361), (0, .ref r0), (1, vI a1)]) rfl rfl rfl ?_)
          have _q : v1391 = xob (fun h => decide (f h > 0 ∧ f h ≤ y + 1)) (h9 + 1) := xob_py (by assumption) _g (decide_eq_true ⟨_c, by omega⟩) e1392 e1389 _v
          refine wp_of e46 c46_38 (rw_iinc (pc' := 41) (z := v1361) (L' := [(3, vI (v1361 + 1)), (2, vI v1391), (0, .ref r0), (1, vI a1)]) rfl rfl rfl rfl ?_)
          refine wp_of e46 c46_41 (rw_goto (p1 := 4) (by decide) ?_)
          exact wp_lc (ks := [3, 2, 0, 1]) (wl_c rfl (wl_c rfl (wl_c rfl (wl_c rfl wl_n)))) rfl (by decide) (ih1360 _ (by omega) (v1361 + 1) v1391 ((h9 + 1)) ⟨by omega, by omega⟩ ⟨b1393.1, b1393.2⟩ (by omega) (by omega) (_q) rfl)
  have : xcn f 0 = 0 := rfl
  exact wp_lc (ks := [3, 2, 0, 1]) (wl_c rfl (wl_c rfl (wl_c rfl (wl_c rfl wl_n)))) rfl (by decide) (lp1358 _ 0 0 0 ⟨by decide, by decide⟩ ⟨by decide, by decide⟩ (by omega) (by omega) (rfl) rfl)
/-! StrikeAwake$Parish.settle()V  -/
abbrev uq_44 (r0 : Nat) (d : xD) (T : wq_T) (H : wq_H) : Option Value → wq_T → wq_H → Prop := fun r T' H' => T = T' ∧ WT T H' ∧ wfr [(27, 16), (27, 18), (35, 15), (35, 17), (38, 999), (39, 999), (36, 999), (40, 999), (41, 999), (34, 999), (37, 999), (29, 999), (30, 999), (33, 999)] T H H' ∧ none = r ∧ ((CU T H' r0 (xset d) (xset d) (xlots (xset d)) ∧ CY T H' r0 (d 0 3) (fun _ => 0) 0))
set_option maxHeartbeats 4000000 in
theorem u_44 {kt : Nat → Option mc_E} {T : wq_T} {H : wq_H} {r0 : Nat} {d : xD} (hW : WT T H) (g0 : T.2.2.2 r0 = some 27) (p0 : xdP d) (hDC_r0 : DC T H r0 d) (hDD_r0 : DD T H r0 ) (hDE_r0 : DE T H r0 ) (hCZ_r0 : CZ T H r0 (d 0 3)) : wpc kt 4 44 [.ref r0] T H (uq_44 r0 d T H) := by
  refine wp_enter e44 (Nat.le_of_ble_eq_true rfl) rfl ?_
  have f0 : wfr [(27, 16), (27, 18), (35, 15), (35, 17), (38, 999), (39, 999), (36, 999), (40, 999), (41, 999), (34, 999), (37, 999), (29, 999), (30, 999), (33, 999)] T H H := wfr.rf
  show wp _ _ 44 0 [(0, .ref r0)] [] _ H _
  have u1622 := DC_k hDC_r0
  have b1623 : 0 ≤ H r0 13 ∧ H r0 13 ≤ 4 := hW.box g0 (n := 19) rfl (by decide) rfl
  have b1624 : 0 ≤ H r0 14 ∧ H r0 14 ≤ 6 := hW.box g0 (n := 19) rfl (by decide) rfl
  have b1625 : 0 ≤ H r0 10 ∧ H r0 10 ≤ 6 := hW.box g0 (n := 19) rfl (by decide) rfl
  have h1626 : DQ T H r0 d := hDC_r0.2.1
  have h1627 : ST T H r0 (d 13) := hDC_r0.2.2.1
  have h1628 : SV T H r0 (d 13) 24 := hDC_r0.2.2.2.1
  have h1629 : DA3 T H r0 (d 0 5) (d 12) := hDC_r0.2.2.2.2.1
  have h1630 : DA4 T H r0 (d 0 6) (d 14) := hDC_r0.2.2.2.2.2.1
  have h1631 : DA5 T H r0 (d 0 6) (d 15) := hDC_r0.2.2.2.2.2.2.1
  have h1632 : DA6 T H r0 (d 0 7) (d 16) := hDC_r0.2.2.2.2.2.2.2
  have _xa : xal (xset d) = xal d := rfl
  have _x := @xset_v d
  have _sx := @xsx_e (d 0 8)
  have _s : xsx (xset d 0 8) = xsx (d 0 8) := rfl
  refine wp_of e44 c44_0 (rw_aload_n (pc' := 1) (v := .ref r0) rfl rfl rfl ?_)
  refine wp_of e44 c44_1 (xc_V (pc' := 4) (r := r0) (as := []) (st := []) (lm_7_96) rfl rfl (Nat.le_of_ble_eq_true rfl) hW g0 sh_27 (by decide) rfl (by decide) (u_45  hW g0) (fun R1633 T1634 H1635 p1636 => ?_))
  obtain ⟨e1637, e1639, z1640, e1638, b1641, p1642⟩ := p1636
  subst e1637
  subst e1638
  subst e1639
  show wp _ _ 44 4 [(0, .ref r0)] [vI z1640] _ H _
  refine wp_of e44 c44_4 (rw_istore_n (pc' := 5) (z := z1640) (L' := [(1, vI z1640), (0, .ref r0)]) rfl rfl rfl ?_)
  have _al : z1640 = xal d := by
    unfold xal
    rw [show d 0 0 = H r0 7 by omega]
    omega
  refine wp_of e44 c44_5 (rw_aload_n (pc' := 6) (v := .ref r0) rfl rfl rfl ?_)
  refine wp_of e44 c44_6 (xg_I (pc' := 9) lf_7_41 hW g0 sh_27 (by decide) (by decide) ty_27_7 rfl rfl (fun b1644 b1645 => ?_))
  refine wp_of e44 c44_9 (rw_istore_n (pc' := 10) (z := H r0 7) (L' := [(2, vI (H r0 7)), (1, vI z1640), (0, .ref r0)]) rfl rfl rfl ?_)
  have lp1662 : ∀ (n1663 : Nat) (v1665 : Int) (H1666 : wq_H), WT T H1666 → wfr [(29, 999)] T H H1666 → (0 ≤ v1665 ∧ v1665 ≤ 24) → ST T H1666 r0 (xcu (d 13) (d 0 0) v1665) → (d 0 0 ≤ v1665) → (24 - v1665).toNat = n1663 → wp kt 3 44 10 [(2, vI v1665), (1, vI z1640), (0, .ref r0)] [] T H1666 (uq_44 r0 d T H) := by
    intro n1663
    induction n1663 using Nat.strongRecOn with
    | _ n1663 ih1664 =>
      intro v1665 H1666 w1667 f1668 b1669 h1671 x1672 m1670
      have f1673 := f0.tr f1668 rfl
      refine wp_of e44 c44_10 (rw_iload_n (pc' := 11) (z := v1665) rfl rfl ?_)
      refine wp_of e44 c44_11 (rw_bipush (pc' := 13) (z := 24) rfl (by decide) ?_)
      refine wp_of e44 c44_13 (rw_icmp_ge (p1 := 30) (p2 := 16) (by decide) rfl ⟨Int.le_trans (by decide) b1669.1, Int.le_trans b1669.2 (by decide)⟩ ⟨by decide, by decide⟩ (fun c1674 => ?_) (fun c1674 => ?_))
      · have h1675 : ST T H1666 r0 (xcu (d 13) (d 0 0) 24) := by rw [show (24 : Int) = v1665 by omega]; exact h1671
        refine wp_of e44 c44_30 (rw_aload_n (pc' := 31) (v := .ref r0) rfl rfl rfl ?_)
        refine wp_of e44 c44_31 (xc_V (pc' := 34) (r := r0) (as := []) (st := []) (lm_7_89) rfl rfl (Nat.le_of_ble_eq_true rfl) w1667 g0 sh_27 (by decide) rfl (by decide) (u_41 (f := ((xcu (d 13) (d 0 0) 24))) w1667 g0 h1675) (fun R1676 T1677 H1678 p1679 => ?_))
        obtain ⟨e1680, w1682, f1683, e1681, p1684⟩ := p1679
        subst e1680
        subst e1681
        obtain ⟨a1685, a1686, a1687⟩ := p1684
        have f1688 := f1673.tr f1683 rfl
        show wp _ _ 44 34 [(2, vI v1665), (1, vI z1640), (0, .ref r0)] [] _ H1678 _
        refine wp_of e44 c44_34 (rw_iconst (pc' := 35) rfl ?_)
        refine wp_of e44 c44_35 (rw_istore_n (pc' := 36) (z := 0) (L' := [(2, vI 0), (1, vI z1640), (0, .ref r0)]) rfl rfl rfl ?_)
        have lp1764 : ∀ (n1765 : Nat) (v1767 : Int) (H1768 : wq_H), WT T H1768 → wfr [(33, 999)] T H1678 H1768 → (0 ≤ v1767 ∧ v1767 ≤ 4) → DA5 T H1768 r0 (d 0 6) (xmk (d 15) (xal d) v1767) → (v1767 ≤ d 0 6) → (4 - v1767).toNat = n1765 → wp kt 3 44 36 [(2, vI v1767), (1, vI z1640), (0, .ref r0)] [] T H1768 (uq_44 r0 d T H) := by
          intro n1765
          induction n1765 using Nat.strongRecOn with
          | _ n1765 ih1766 =>
            intro v1767 H1768 w1769 f1770 b1771 h1773 x1774 m1772
            have f1775 := f1688.tr f1770 rfl
            refine wp_of e44 c44_36 (rw_iload_n (pc' := 37) (z := v1767) rfl rfl ?_)
            refine wp_of e44 c44_37 (rw_aload_n (pc' := 38) (v := .ref r0) rfl rfl rfl ?_)
            have k1776 : H1768 r0 13 = H r0 13 := ((f1770 r0 13 _ g0 rfl).trans ((f1683 r0 13 _ g0 rfl).trans (f1668 r0 13 _ g0 rfl)))
            refine wp_of e44 c44_38 (xg_I (pc' := 41) lf_7_59 w1769 g0 sh_27 (by decide) (by decide) ty_27_13 rfl rfl (fun b1777 b1778 => ?_))
            refine wp_of e44 c44_41 (rw_icmp_ge (p1 := 60) (p2 := 44) (by decide) rfl ⟨Int.le_trans (by decide) b1771.1, Int.le_trans b1771.2 (by decide)⟩ ⟨Int.le_trans (by decide) b1777, Int.le_trans b1778 (by decide)⟩ (fun c1779 => ?_) (fun c1779 => ?_))
            · have h1780 : DA5 T H1768 r0 (d 0 6) (xset d 15) := DA_cg h1773 rfl (by rw [show v1767 = d 0 6 by omega]; rfl)
              refine wp_of e44 c44_60 (rw_iconst (pc' := 61) rfl ?_)
              refine wp_of e44 c44_61 (rw_istore_n (pc' := 62) (z := 0) (L' := [(2, vI 0), (1, vI z1640), (0, .ref r0)]) rfl rfl rfl ?_)
              have lp1886 : ∀ (n1887 : Nat) (v1889 : Int) (H1890 : wq_H), WT T H1890 → wfr [(34, 999)] T H1768 H1890 → (0 ≤ v1889 ∧ v1889 ≤ 6) → DA6 T H1890 r0 (d 0 7) (xmk (d 16) (xal d) v1889) → (v1889 ≤ d 0 7) → (6 - v1889).toNat = n1887 → wp kt 3 44 62 [(2, vI v1889), (1, vI z1640), (0, .ref r0)] [] T H1890 (uq_44 r0 d T H) := by
                intro n1887
                induction n1887 using Nat.strongRecOn with
                | _ n1887 ih1888 =>
                  intro v1889 H1890 w1891 f1892 b1893 h1895 x1896 m1894
                  have f1897 := f1775.tr f1892 rfl
                  refine wp_of e44 c44_62 (rw_iload_n (pc' := 63) (z := v1889) rfl rfl ?_)
                  refine wp_of e44 c44_63 (rw_aload_n (pc' := 64) (v := .ref r0) rfl rfl rfl ?_)
                  have k1898 : H1890 r0 14 = H r0 14 := ((f1892 r0 14 _ g0 rfl).trans ((f1770 r0 14 _ g0 rfl).trans ((f1683 r0 14 _ g0 rfl).trans (f1668 r0 14 _ g0 rfl))))
                  refine wp_of e44 c44_64 (xg_I (pc' := 67) lf_7_62 w1891 g0 sh_27 (by decide) (by decide) ty_27_14 rfl rfl (fun b1899 b1900 => ?_))
                  refine wp_of e44 c44_67 (rw_icmp_ge (p1 := 86) (p2 := 70) (by decide) rfl ⟨Int.le_trans (by decide) b1893.1, Int.le_trans b1893.2 (by decide)⟩ ⟨Int.le_trans (by decide) b1899, Int.le_trans b1900 (by decide)⟩ (fun c1901 => ?_) (fun c1901 => ?_))
                  · have k1902 : H1890 r0 16 = H1678 r0 16 := ((f1892 r0 16 _ g0 rfl).trans (f1770 r0 16 _ g0 rfl))
                    have h1903 : DA6 T H1890 r0 (d 0 7) (xset d 16) := DA_cg h1895 rfl (by rw [show v1889 = d 0 7 by omega]; rfl)
                    have h1904 : DQ T H1890 r0 d := (DQ_fr w1769 g0 f1892 rfl (DQ_fr w1682 g0 f1770 rfl (DQ_fr w1667 g0 f1683 rfl (DQ_fr hW g0 f1668 rfl h1626))))
                    have h1905 : DQ T H1890 r0 (xset d) := DQ_cg (fun i h1 h2 => xset_o (by omega)) rfl rfl h1904
                    have h1906 : ST T H1890 r0 ((xcu (d 13) (d 0 0) 24)) := (ST_fr w1769 g0 f1892 rfl (ST_fr w1682 g0 f1770 rfl a1686))
                    have h1907 : ST T H1890 r0 (xset d 13) := h1906
                    have h1908 : SV T H1890 r0 ((xcu (d 13) (d 0 0) 24)) 24 := (SV_fr w1769 g0 f1892 rfl (SV_fr w1682 g0 f1770 rfl a1687))
                    have h1909 : SV T H1890 r0 (xset d 13) 24 := h1908
                    have h1910 : CZ T H1890 r0 (d 0 3) := (CZ_fr w1769 g0 f1892 rfl (CZ_fr w1682 g0 f1770 rfl (CZ_fr w1667 g0 f1683 rfl (CZ_fr hW g0 f1668 rfl hCZ_r0))))
                    have h1911 : CG T H1890 r0 (d 0 3) (fun _ => 0) := CG_z h1910
                    have _c16 : H1890 r0 16 = xcn (xset d 13) 24 := by
                      rw [xset_13]
                      omega
                    refine wp_of e44 c44_86 (rw_aload_n (pc' := 87) (v := .ref r0) rfl rfl rfl ?_)
                    refine wp_of e44 c44_87 (rw_lconst (pc' := 88) (z := 1) rfl rfl ?_)
                    refine wp_of e44 c44_88 (xp_L (pc' := 91) lf_7_71 w1891 g0 sh_27 (by decide) (by decide) ty_27_18 rfl rfl (by decide) (by decide) ⟨by decide, by decide⟩ rfl (fun H1912 e1913 w1914 => ?_))
                    have f1915 := f1897.put' e1913 g0 rfl
                    have k1916 : H1912 r0 18 = 1 := wq_u_s e1913
                    refine wp_of e44 c44_91 (rw_aload_n (pc' := 92) (v := .ref r0) rfl rfl rfl ?_)
                    have k1917 : H1912 r0 10 = H r0 10 := ((wq_u_j e1913 rfl).trans ((f1892 r0 10 _ g0 rfl).trans ((f1770 r0 10 _ g0 rfl).trans ((f1683 r0 10 _ g0 rfl).trans (f1668 r0 10 _ g0 rfl)))))
                    refine wp_of e44 c44_92 (xg_I (pc' := 95) lf_7_50 w1914 g0 sh_27 (by decide) (by decide) ty_27_10 rfl rfl (fun b1918 b1919 => ?_))
                    refine wp_of e44 c44_95 (rw_iconst (pc' := 96) rfl ?_)
                    refine wp_of e44 c44_96 (rw_isub (pc' := 97) rfl ?_)
                    refine wp_of e44 c44_97 (rw_istore_n (pc' := 98) (z := (H1912 r0 10) - 1) (L' := [(2, vI ((H1912 r0 10) - 1)), (1, vI z1640), (0, .ref r0)]) rfl rfl rfl ?_)
                    have lp2148 : ∀ (n2149 : Nat) (v2151 : Int) (H2152 : wq_H), WT T H2152 → wfr [(27, 18), (35, 15), (35, 17), (38, 999), (39, 999), (36, 999), (40, 999), (41, 999), (37, 999)] T H1912 H2152 → ((-1) ≤ v2151 ∧ v2151 ≤ 5) → CS T H2152 r0 (xset d) (v2151 + 1) → CZ T H2152 r0 (v2151 + 1) → (v2151 ≤ d 0 3 - 1) → (H2152 r0 18 = xpr (xset d) (v2151 + 1).toNat ((xset d 0 3).toNat - (v2151 + 1).toNat)) → (v2151 - (-1)).toNat = n2149 → wp kt 3 44 98 [(2, vI v2151), (1, vI z1640), (0, .ref r0)] [] T H2152 (uq_44 r0 d T H) := by
                      intro n2149
                      induction n2149 using Nat.strongRecOn with
                      | _ n2149 ih2150 =>
                        intro v2151 H2152 w2153 f2154 b2155 h2157 h2158 x2159 x2160 m2156
                        have f2161 := f1915.tr f2154 rfl
                        refine wp_of e44 c44_98 (rw_iload_n (pc' := 99) (z := v2151) rfl rfl ?_)
                        refine wp_of e44 c44_99 (rw_if_lt (p1 := 169) (p2 := 102) (by decide) rfl ⟨Int.le_trans (by decide) b2155.1, Int.le_trans b2155.2 (by decide)⟩ (fun c2162 => ?_) (fun c2162 => ?_))
                        · have k2163 : H2152 r0 7 = H r0 7 := ((f2154 r0 7 _ g0 rfl).trans ((wq_u_j e1913 rfl).trans ((f1892 r0 7 _ g0 rfl).trans ((f1770 r0 7 _ g0 rfl).trans ((f1683 r0 7 _ g0 rfl).trans (f1668 r0 7 _ g0 rfl))))))
                          have k2164 : H2152 r0 8 = H r0 8 := ((f2154 r0 8 _ g0 rfl).trans ((wq_u_j e1913 rfl).trans ((f1892 r0 8 _ g0 rfl).trans ((f1770 r0 8 _ g0 rfl).trans ((f1683 r0 8 _ g0 rfl).trans (f1668 r0 8 _ g0 rfl))))))
                          have k2165 : H2152 r0 9 = H r0 9 := ((f2154 r0 9 _ g0 rfl).trans ((wq_u_j e1913 rfl).trans ((f1892 r0 9 _ g0 rfl).trans ((f1770 r0 9 _ g0 rfl).trans ((f1683 r0 9 _ g0 rfl).trans (f1668 r0 9 _ g0 rfl))))))
                          have k2166 : H2152 r0 10 = H1912 r0 10 := (f2154 r0 10 _ g0 rfl)
                          have k2167 : H2152 r0 11 = H r0 11 := ((f2154 r0 11 _ g0 rfl).trans ((wq_u_j e1913 rfl).trans ((f1892 r0 11 _ g0 rfl).trans ((f1770 r0 11 _ g0 rfl).trans ((f1683 r0 11 _ g0 rfl).trans (f1668 r0 11 _ g0 rfl))))))
                          have k2168 : H2152 r0 12 = H r0 12 := ((f2154 r0 12 _ g0 rfl).trans ((wq_u_j e1913 rfl).trans ((f1892 r0 12 _ g0 rfl).trans ((f1770 r0 12 _ g0 rfl).trans ((f1683 r0 12 _ g0 rfl).trans (f1668 r0 12 _ g0 rfl))))))
                          have k2169 : H2152 r0 13 = H1768 r0 13 := ((f2154 r0 13 _ g0 rfl).trans ((wq_u_j e1913 rfl).trans (f1892 r0 13 _ g0 rfl)))
                          have k2170 : H2152 r0 14 = H1890 r0 14 := ((f2154 r0 14 _ g0 rfl).trans (wq_u_j e1913 rfl))
                          have k2171 : H2152 r0 15 = H r0 15 := ((f2154 r0 15 _ g0 rfl).trans ((wq_u_j e1913 rfl).trans ((f1892 r0 15 _ g0 rfl).trans ((f1770 r0 15 _ g0 rfl).trans ((f1683 r0 15 _ g0 rfl).trans (f1668 r0 15 _ g0 rfl))))))
                          have k2172 : H2152 r0 16 = H1890 r0 16 := ((f2154 r0 16 _ g0 rfl).trans (wq_u_j e1913 rfl))
                          have _l := @xlots_e (xset d) v2151 (by omega)
                          have h2173 : DQ T H2152 r0 (xset d) := (DQ_fr w1914 g0 f2154 rfl (DQ_fr w1891 g0 ((wfr.rf (l := [(27, 18)])).put' e1913 g0 rfl) rfl h1905))
                          have h2174 : ST T H2152 r0 (xset d 13) := (ST_fr w1914 g0 f2154 rfl (ST_fr w1891 g0 ((wfr.rf (l := [(27, 18)])).put' e1913 g0 rfl) rfl h1907))
                          have h2175 : SV T H2152 r0 (xset d 13) 24 := (SV_fr w1914 g0 f2154 rfl (SV_fr w1891 g0 ((wfr.rf (l := [(27, 18)])).put' e1913 g0 rfl) rfl h1909))
                          have h2176 : DA3 T H2152 r0 (d 0 5) (d 12) := (DA3_fr w1914 g0 f2154 rfl (DA3_fr w1891 g0 ((wfr.rf (l := [(27, 18)])).put' e1913 g0 rfl) rfl (DA3_fr w1769 g0 f1892 rfl (DA3_fr w1682 g0 f1770 rfl (DA3_fr w1667 g0 f1683 rfl (DA3_fr hW g0 f1668 rfl h1629))))))
                          have h2177 : DA4 T H2152 r0 (d 0 6) (d 14) := (DA4_fr w1914 g0 f2154 rfl (DA4_fr w1891 g0 ((wfr.rf (l := [(27, 18)])).put' e1913 g0 rfl) rfl (DA4_fr w1769 g0 f1892 rfl (DA4_fr w1682 g0 f1770 rfl (DA4_fr w1667 g0 f1683 rfl (DA4_fr hW g0 f1668 rfl h1630))))))
                          have h2178 : DA5 T H2152 r0 (d 0 6) (xset d 15) := (DA5_fr w1914 g0 f2154 rfl (DA5_fr w1891 g0 ((wfr.rf (l := [(27, 18)])).put' e1913 g0 rfl) rfl (DA5_fr w1769 g0 f1892 rfl h1780)))
                          have h2179 : DA6 T H2152 r0 (d 0 7) (xset d 16) := (DA6_fr w1914 g0 f2154 rfl (DA6_fr w1891 g0 ((wfr.rf (l := [(27, 18)])).put' e1913 g0 rfl) rfl h1903))
                          have h2180 : CG T H2152 r0 (d 0 3) (fun _ => 0) := (CG_fr w1914 g0 f2154 rfl (CG_fr w1891 g0 ((wfr.rf (l := [(27, 18)])).put' e1913 g0 rfl) rfl h1911))
                          exact wp_return e44 c44_169 rfl ⟨rfl, w2153, f2161, rfl, ⟨⟨DC_mk ⟨by omega, by omega, by omega, by omega, by omega, by omega, by omega, by omega, by omega, by omega, by omega, by omega, by omega, by omega, by omega, by omega⟩ h2173 h2174 h2175 h2176 h2177 h2178 h2179 ⟨rfl, rfl, rfl, rfl, rfl⟩ ⟨rfl, rfl, rfl⟩, CS_ge h2157 (by omega), by omega⟩, ⟨h2180, (h2158).1⟩⟩⟩
                        · refine wp_of e44 c44_102 (rw_aload_n (pc' := 103) (v := .ref r0) rfl rfl rfl ?_)
                          refine wp_of e44 c44_103 (xg_R (pc' := 106) lf_7_11 w2153 g0 sh_27 (by decide) (by decide) ty_27_0 rfl rfl (fun r2181 q2182 g2183 => ?_))
                          refine wp_of e44 c44_106 (rw_iload_n (pc' := 107) (z := v2151) rfl rfl ?_)
                          refine wp_of e44 c44_107 (xa_R (pc' := 108) (by decide) w2153 g2183 sh_28 (by decide) (ty_28 _) (by omega) (Int.lt_of_le_of_lt b2155.2 (by decide)) rfl (fun r2184 q2185 g2186 => ?_))
                          have h2187 : DQ T H2152 r0 (xset d) := (DQ_fr w1914 g0 f2154 rfl (DQ_fr w1891 g0 ((wfr.rf (l := [(27, 18)])).put' e1913 g0 rfl) rfl h1905))
                          have _f := DQ_at h2187 q2182 q2185 (k := (v2151).toNat) (by omega)
                          have _z := CZ_at h2158 q2182 q2185 (k := (v2151).toNat) (by omega)
                          have h2188 : PX T H2152 r2184 (xset d) (v2151).toNat := ⟨_f, xdP_set p0⟩
                          refine wp_of e44 c44_108 (rw_iload_n (pc' := 109) (z := z1640) rfl rfl ?_)
                          refine wp_of e44 c44_109 (rw_iload_n (pc' := 110) (z := v2151) rfl rfl ?_)
                          refine wp_of e44 c44_110 (rw_aload_n (pc' := 111) (v := .ref r0) rfl rfl rfl ?_)
                          have k2189 : H2152 r0 15 = H r0 15 := ((f2154 r0 15 _ g0 rfl).trans ((wq_u_j e1913 rfl).trans ((f1892 r0 15 _ g0 rfl).trans ((f1770 r0 15 _ g0 rfl).trans ((f1683 r0 15 _ g0 rfl).trans (f1668 r0 15 _ g0 rfl))))))
                          refine wp_of e44 c44_111 (xg_I (pc' := 114) lf_7_37 w2153 g0 sh_27 (by decide) (by decide) ty_27_15 rfl rfl (fun b2190 b2191 => ?_))
                          refine wp_of e44 c44_114 (rw_icmp_ne (p1 := 126) (p2 := 117) (by decide) rfl ⟨Int.le_trans (by decide) b2155.1, Int.le_trans b2155.2 (by decide)⟩ ⟨b2190, b2191⟩ (fun c2192 => ?_) (fun c2192 => ?_))
                          · refine wp_of e44 c44_126 (rw_iconst (pc' := 127) rfl ?_)
                            have _m : (0 : Int) = xmu (xset d) (v2151).toNat := xmu_n (by omega)
                            have h2193 : SQ T H2152 (cP H2152 r2184) := cP_SQ w2153 g2186
                            have w2194 := rt_WT w2153 h2193
                            refine wp_of e44 c44_127 (xc_V (pc' := 130) (r := r2184) (as := [vI z1640, vI 0]) (st := []) (lm_7_103) rfl rfl (Nat.le_of_ble_eq_true rfl) w2153 g2186 sh_35 (by decide) rfl (by decide) (rt_wpc (C := cP H2152 r2184) (u_47 (T := rtT T (cP H2152 r2184)) (d := ((xset d))) (k := ((v2151).toNat)) w2194 (rtT_k (C := cP H2152 r2184) g2186 (rtF_c g2186 (by decide) cP_p)) ⟨by omega, by omega⟩ ⟨by omega, by omega⟩ (by omega) (by omega) (by omega) h2188) (fun _ _ _ p => p.1)) (fun R2195 T2196 H2197 p2198 => ?_))
                            obtain ⟨e2199, -, w2201, f2202, e2200, p2203⟩ := p2198
                            subst e2199
                            subst e2200
                            have o2206 := rt_old f2202 rfl
                            have f2205 := rt_fr f2202 rfl
                            have w2204 := rt_un w2153 w2201 o2206
                            have f2208 := f2161.tr f2205 rfl
                            have f2209 := f2154.tr f2205 rfl
                            show wp _ _ 44 130 [(2, vI v2151), (1, vI z1640), (0, .ref r0)] [] _ H2197 _
                            have h2210 : PS T H2197 r2184 ((xset d)) ((v2151).toNat) (xsp ((xset d)) ((v2151).toNat)) := PS_un p2203
                            have k2211 : H2197 r0 0 = H2152 r0 0 := (f2205 r0 0 _ g0 rfl)
                            have q2212 : H2197 r0 0 = (r2181 : Int) := k2211.trans q2182
                            have h2213 : DD T H2152 r0  := (DD_fr w1914 g0 f2154 rfl (DD_fr w1891 g0 ((wfr.rf (l := [(27, 18)])).put' e1913 g0 rfl) rfl (DD_fr w1769 g0 f1892 rfl (DD_fr w1682 g0 f1770 rfl (DD_fr w1667 g0 f1683 rfl (DD_fr hW g0 f1668 rfl hDD_r0))))))
                            have h2214 : DE T H2152 r0  := (DE_fr w1914 g0 f2154 rfl (DE_fr w1891 g0 ((wfr.rf (l := [(27, 18)])).put' e1913 g0 rfl) rfl (DE_fr w1769 g0 f1892 rfl (DE_fr w1682 g0 f1770 rfl (DE_fr w1667 g0 f1683 rfl (DE_fr hW g0 f1668 rfl hDE_r0))))))
                            have h2215 : CS T H2197 r0 (xset d) (v2151 + 1) := CS_mk w2153 g0 h2213 h2214 q2182 g2183 q2212 (fun j => congrFun (f2205.fn g2183 rfl) j) q2185 g2186 (k := (v2151).toNat) (by omega) (by omega) o2206 (by omega) h2157
                            have h2216 : CZ T H2197 r0 (v2151) := CZ_mk w2153 g0 h2213 h2214 q2182 q2212 (fun j => congrFun (f2205.fn g2183 rfl) j) (f2205 r0 17 _ g0 rfl) q2185 g2186 (k := (v2151).toNat) (by omega) (by omega) o2206 h2158
                            have _n := (h2210).1
                            refine wp_of e44 c44_130 (rw_aload_n (pc' := 131) (v := .ref r0) rfl rfl rfl ?_)
                            refine wp_of e44 c44_131 (xg_K (pc' := 134) lf_7_11 w2204 g0 sh_27 (by decide) (by decide) rfl q2212 rfl ?_)
                            refine wp_of e44 c44_134 (rw_iload_n (pc' := 135) (z := v2151) rfl rfl ?_)
                            have k2217 : H2197 r2181 (v2151.toNat) = H2152 r2181 (v2151.toNat) := (f2205 r2181 (v2151.toNat) _ g2183 rfl)
                            have q2218 : H2197 r2181 (v2151.toNat) = (r2184 : Int) := k2217.trans q2185
                            refine wp_of e44 c44_135 (xa_K (pc' := 136) (by decide) w2204 g2183 sh_28 (by decide) (by omega) (Int.lt_of_le_of_lt b2155.2 (by decide)) q2218 rfl ?_)
                            refine wp_of e44 c44_136 (rw_aload_n (pc' := 137) (v := .ref r0) rfl rfl rfl ?_)
                            have k2219 : H2197 r0 18 = H2152 r0 18 := (f2205 r0 18 _ g0 rfl)
                            refine wp_of e44 c44_137 (xg_L (pc' := 140) lf_7_71 w2204 g0 sh_27 (by decide) (by decide) ty_27_18 rfl rfl (fun b2220 b2221 => ?_))
                            refine wp_of e44 c44_140 (rw_l2i (pc' := 141) rfl ?_)
                            obtain ⟨v2222, e2223⟩ : ∃ x : Int, x = wq_w (H2197 r0 18) := ⟨_, rfl⟩
                            rw [← e2223]
                            have b2224 : -2147483648 ≤ v2222 ∧ v2222 ≤ 2147483647 := by
                              rw [e2223]
                              exact wI_w _
                            have b2225 : (-2147483648 ≤ (H2197 r0 18) ∧ (H2197 r0 18) ≤ 2147483647) → v2222 = (H2197 r0 18) := by
                              rw [e2223]
                              exact fun h => wq_w_id h
                            have _t := @str_m (xset d) v2151 _ _ (by omega) (by omega) e2223
                            have h2226 : DD T H2197 r0  := (DD_fr w2153 g0 f2205 rfl (DD_fr w1914 g0 f2154 rfl (DD_fr w1891 g0 ((wfr.rf (l := [(27, 18)])).put' e1913 g0 rfl) rfl (DD_fr w1769 g0 f1892 rfl (DD_fr w1682 g0 f1770 rfl (DD_fr w1667 g0 f1683 rfl (DD_fr hW g0 f1668 rfl hDD_r0)))))))
                            refine wp_of e44 c44_141 (xp_I (pc' := 144) lf_7_107 w2204 g2186 sh_35 (by decide) (by decide) ty_35_17 rfl rfl (b2224.1) (b2224.2) ⟨b2224.1, b2224.2⟩ rfl (fun H2227 e2228 w2229 => ?_))
                            have f2230 := f2208.put' e2228 g2186 rfl
                            have f2231 := f2209.put' e2228 g2186 rfl
                            have k2232 : H2227 r2184 17 = v2222 := wq_u_s e2228
                            have h2233 : CS T H2227 r0 (xset d) (v2151 + 1) := CS_17 h2226 q2212 g2183 g0 q2218 g2186 (k := (v2151).toNat) (by omega) (by omega) (by omega) e2228 h2215
                            refine wp_of e44 c44_144 (rw_aload_n (pc' := 145) (v := .ref r0) rfl rfl rfl ?_)
                            refine wp_of e44 c44_145 (rw_dup (pc' := 146) rfl rfl ?_)
                            have k2234 : H2227 r0 18 = H2197 r0 18 := (wq_u_t e2228 g2186 g0 rfl 18)
                            refine wp_of e44 c44_146 (xg_L (pc' := 149) lf_7_71 w2229 g0 sh_27 (by decide) (by decide) ty_27_18 rfl rfl (fun b2235 b2236 => ?_))
                            refine wp_of e44 c44_149 (rw_aload_n (pc' := 150) (v := .ref r0) rfl rfl rfl ?_)
                            have k2237 : H2227 r0 0 = H2197 r0 0 := (wq_u_t e2228 g2186 g0 rfl 0)
                            have q2238 : H2227 r0 0 = (r2181 : Int) := k2237.trans q2212
                            refine wp_of e44 c44_150 (xg_K (pc' := 153) lf_7_11 w2229 g0 sh_27 (by decide) (by decide) rfl q2238 rfl ?_)
                            refine wp_of e44 c44_153 (rw_iload_n (pc' := 154) (z := v2151) rfl rfl ?_)
                            have k2239 : H2227 r2181 (v2151.toNat) = H2197 r2181 (v2151.toNat) := (wq_u_t e2228 g2186 g2183 rfl (v2151.toNat))
                            have q2240 : H2227 r2181 (v2151.toNat) = (r2184 : Int) := k2239.trans q2218
                            refine wp_of e44 c44_154 (xa_K (pc' := 155) (by decide) w2229 g2183 sh_28 (by decide) (by omega) (Int.lt_of_le_of_lt b2155.2 (by decide)) q2240 rfl ?_)
                            have k2241 : H2227 r2184 15 = H2197 r2184 15 := (wq_u_j e2228 rfl)
                            refine wp_of e44 c44_155 (xg_I (pc' := 158) lf_7_110 w2229 g2186 sh_35 (by decide) (by decide) ty_35_15 rfl rfl (fun b2242 b2243 => ?_))
                            refine wp_of e44 c44_158 (rw_i2l (pc' := 159) rfl ⟨Int.le_trans (by decide) b2242, Int.le_trans b2243 (by decide)⟩ ?_)
                            refine wp_of e44 c44_159 (rw_lmulw (pc' := 160) rfl ?_)
                            obtain ⟨v2244, e2245⟩ : ∃ x : Int, x = wl_w ((H2227 r0 18) * (H2227 r2184 15)) := ⟨_, rfl⟩
                            rw [← e2245]
                            have b2246 : -9223372036854775808 ≤ v2244 ∧ v2244 ≤ 9223372036854775807 := by
                              rw [e2245]
                              exact wL_w _
                            have b2247 : (-9223372036854775808 ≤ (H2227 r0 18) * (H2227 r2184 15) ∧ (H2227 r0 18) * (H2227 r2184 15) ≤ 9223372036854775807) → v2244 = (H2227 r0 18) * (H2227 r2184 15) := fun h => by rw [e2245]; exact wl_w_id h
                            have _e := @xpr_m (xset d) v2151 _ _ _ (xdP_set p0) (by omega) (by omega) (by omega) (by omega) (by omega) e2245
                            refine wp_of e44 c44_160 (xp_L (pc' := 163) lf_7_71 w2229 g0 sh_27 (by decide) (by decide) ty_27_18 rfl rfl (b2246.1) (b2246.2) ⟨b2246.1, b2246.2⟩ rfl (fun H2248 e2249 w2250 => ?_))
                            have f2251 := f2230.put' e2249 g0 rfl
                            have f2252 := f2231.put' e2249 g0 rfl
                            have k2253 : H2248 r0 18 = v2244 := wq_u_s e2249
                            have k2254 : H2248 r2184 17 = H2227 r2184 17 := (wq_u_t e2249 g0 g2186 rfl 17)
                            have k2255 : H2248 r2181 (v2151.toNat) = H2227 r2181 (v2151.toNat) := (wq_u_t e2249 g0 g2183 rfl (v2151.toNat))
                            have q2256 : H2248 r2181 (v2151.toNat) = (r2184 : Int) := k2255.trans q2240
                            have h2257 : PS T H2248 r2184 ((xset d)) ((v2151).toNat) (xsp ((xset d)) ((v2151).toNat)) := (PS_fr w2229 g2186 ((wfr.rf (l := [(27, 18)])).put' e2249 g0 rfl) rfl (PS_fr w2204 g2186 ((wfr.rf (l := [(35, 17)])).put' e2228 g2186 rfl) rfl h2210))
                            have k2258 : H2248 r0 0 = H2227 r0 0 := (wq_u_j e2249 rfl)
                            have q2259 : H2248 r0 0 = (r2181 : Int) := k2258.trans q2238
                            have h2260 : CS T H2248 r0 (xset d) (v2151 + 1) := (CS_fr w2229 g0 ((wfr.rf (l := [(27, 18)])).put' e2249 g0 rfl) rfl h2233)
                            have h2261 : CS T H2248 r0 (xset d) ((v2151 + (-1)) + 1) := CS_ge (CS_cons (i := v2151) (k := (v2151).toNat) q2259 q2256 g2186 h2257 (by omega) (by omega) h2260) (by omega)
                            have h2262 : CZ T H2248 r0 (v2151) := (CZ_fr w2229 g0 ((wfr.rf (l := [(27, 18)])).put' e2249 g0 rfl) rfl (CZ_fr w2204 g0 ((wfr.rf (l := [(35, 17)])).put' e2228 g2186 rfl) rfl h2216))
                            have h2263 : CZ T H2248 r0 ((v2151 + (-1)) + 1) := CZ_le h2262 (by omega)
                            refine wp_of e44 c44_163 (rw_iinc (pc' := 166) (z := v2151) (L' := [(2, vI (v2151 + (-1))), (1, vI z1640), (0, .ref r0)]) rfl rfl rfl rfl ?_)
                            refine wp_of e44 c44_166 (rw_goto (p1 := 98) (by decide) ?_)
                            exact wp_lc (ks := [2, 1, 0]) (wl_c rfl (wl_c rfl (wl_c rfl wl_n))) rfl (by decide) (ih2150 _ (by omega) (v2151 + (-1)) H2248 w2250 f2252 ⟨by omega, by omega⟩ h2261 h2263 (by omega) (by rw [show v2151 + (-1) + 1 = v2151 by omega]; omega) rfl)
                          · refine wp_of e44 c44_117 (rw_aload_n (pc' := 118) (v := .ref r0) rfl rfl rfl ?_)
                            refine wp_of e44 c44_118 (rw_bipush (pc' := 120) (z := 99) rfl (by decide) ?_)
                            have k2264 : H2152 r0 16 = H1890 r0 16 := ((f2154 r0 16 _ g0 rfl).trans (wq_u_j e1913 rfl))
                            have h2265 : ST T H2152 r0 (xset d 13) := (ST_fr w1914 g0 f2154 rfl (ST_fr w1891 g0 ((wfr.rf (l := [(27, 18)])).put' e1913 g0 rfl) rfl h1907))
                            have h2266 : SV T H2152 r0 (xset d 13) 24 := (SV_fr w1914 g0 f2154 rfl (SV_fr w1891 g0 ((wfr.rf (l := [(27, 18)])).put' e1913 g0 rfl) rfl h1909))
                            refine wp_of e44 c44_120 (xc_V (pc' := 123) (r := r0) (as := [vI 99]) (st := [vI z1640, .ref r2184]) (lm_7_99) rfl rfl (Nat.le_of_ble_eq_true rfl) w2153 g0 sh_27 (by decide) rfl (by decide) (u_46 (f := ((xset d 13))) (y := 99) w2153 g0 ⟨by decide, by decide⟩ (by omega) (by omega) h2265 h2266) (fun R2267 T2268 H2269 p2270 => ?_))
                            obtain ⟨e2271, e2273, z2274, e2272, b2275, p2276⟩ := p2270
                            subst e2271
                            subst e2272
                            subst e2273
                            show wp _ _ 44 123 [(2, vI v2151), (1, vI z1640), (0, .ref r0)] [vI z2274, vI z1640, .ref r2184] _ H2152 _
                            refine wp_of e44 c44_123 (rw_goto (p1 := 127) (by decide) ?_)
                            have _m : z2274 = xmu (xset d) (v2151).toNat := xmu_y (by omega) (ST_100 h2265) (by assumption)
                            have h2278 : SQ T H2152 (cP H2152 r2184) := cP_SQ w2153 g2186
                            have w2279 := rt_WT w2153 h2278
                            refine wp_of e44 c44_127 (xc_V (pc' := 130) (r := r2184) (as := [vI z1640, vI z2274]) (st := []) (lm_7_103) rfl rfl (Nat.le_of_ble_eq_true rfl) w2153 g2186 sh_35 (by decide) rfl (by decide) (rt_wpc (C := cP H2152 r2184) (u_47 (T := rtT T (cP H2152 r2184)) (d := ((xset d))) (k := ((v2151).toNat)) w2279 (rtT_k (C := cP H2152 r2184) g2186 (rtF_c g2186 (by decide) cP_p)) ⟨by omega, by omega⟩ ⟨by omega, by omega⟩ (by omega) (by omega) (by omega) h2188) (fun _ _ _ p => p.1)) (fun R2280 T2281 H2282 p2283 => ?_))
                            obtain ⟨e2284, -, w2286, f2287, e2285, p2288⟩ := p2283
                            subst e2284
                            subst e2285
                            have o2291 := rt_old f2287 rfl
                            have f2290 := rt_fr f2287 rfl
                            have w2289 := rt_un w2153 w2286 o2291
                            have f2293 := f2161.tr f2290 rfl
                            have f2294 := f2154.tr f2290 rfl
                            show wp _ _ 44 130 [(2, vI v2151), (1, vI z1640), (0, .ref r0)] [] _ H2282 _
                            have h2295 : PS T H2282 r2184 ((xset d)) ((v2151).toNat) (xsp ((xset d)) ((v2151).toNat)) := PS_un p2288
                            have k2296 : H2282 r0 0 = H2152 r0 0 := (f2290 r0 0 _ g0 rfl)
                            have q2297 : H2282 r0 0 = (r2181 : Int) := k2296.trans q2182
                            have h2298 : DD T H2152 r0  := (DD_fr w1914 g0 f2154 rfl (DD_fr w1891 g0 ((wfr.rf (l := [(27, 18)])).put' e1913 g0 rfl) rfl (DD_fr w1769 g0 f1892 rfl (DD_fr w1682 g0 f1770 rfl (DD_fr w1667 g0 f1683 rfl (DD_fr hW g0 f1668 rfl hDD_r0))))))
                            have h2299 : DE T H2152 r0  := (DE_fr w1914 g0 f2154 rfl (DE_fr w1891 g0 ((wfr.rf (l := [(27, 18)])).put' e1913 g0 rfl) rfl (DE_fr w1769 g0 f1892 rfl (DE_fr w1682 g0 f1770 rfl (DE_fr w1667 g0 f1683 rfl (DE_fr hW g0 f1668 rfl hDE_r0))))))
                            have h2300 : CS T H2282 r0 (xset d) (v2151 + 1) := CS_mk w2153 g0 h2298 h2299 q2182 g2183 q2297 (fun j => congrFun (f2290.fn g2183 rfl) j) q2185 g2186 (k := (v2151).toNat) (by omega) (by omega) o2291 (by omega) h2157
                            have h2301 : CZ T H2282 r0 (v2151) := CZ_mk w2153 g0 h2298 h2299 q2182 q2297 (fun j => congrFun (f2290.fn g2183 rfl) j) (f2290 r0 17 _ g0 rfl) q2185 g2186 (k := (v2151).toNat) (by omega) (by omega) o2291 h2158
                            have _n := (h2295).1
                            refine wp_of e44 c44_130 (rw_aload_n (pc' := 131) (v := .ref r0) rfl rfl rfl ?_)
                            refine wp_of e44 c44_131 (xg_K (pc' := 134) lf_7_11 w2289 g0 sh_27 (by decide) (by decide) rfl q2297 rfl ?_)
                            refine wp_of e44 c44_134 (rw_iload_n (pc' := 135) (z := v2151) rfl rfl ?_)
                            have k2302 : H2282 r2181 (v2151.toNat) = H2152 r2181 (v2151.toNat) := (f2290 r2181 (v2151.toNat) _ g2183 rfl)
                            have q2303 : H2282 r2181 (v2151.toNat) = (r2184 : Int) := k2302.trans q2185
                            refine wp_of e44 c44_135 (xa_K (pc' := 136) (by decide) w2289 g2183 sh_28 (by decide) (by omega) (Int.lt_of_le_of_lt b2155.2 (by decide)) q2303 rfl ?_)
                            refine wp_of e44 c44_136 (rw_aload_n (pc' := 137) (v := .ref r0) rfl rfl rfl ?_)
                            have k2304 : H2282 r0 18 = H2152 r0 18 := (f2290 r0 18 _ g0 rfl)
                            refine wp_of e44 c44_137 (xg_L (pc' := 140) lf_7_71 w2289 g0 sh_27 (by decide) (by decide) ty_27_18 rfl rfl (fun b2305 b2306 => ?_))
                            refine wp_of e44 c44_140 (rw_l2i (pc' := 141) rfl ?_)
                            obtain ⟨v2307, e2308⟩ : ∃ x : Int, x = wq_w (H2282 r0 18) := ⟨_, rfl⟩
                            rw [← e2308]
                            have b2309 : -2147483648 ≤ v2307 ∧ v2307 ≤ 2147483647 := by
                              rw [e2308]
                              exact wI_w _
                            have b2310 : (-2147483648 ≤ (H2282 r0 18) ∧ (H2282 r0 18) ≤ 2147483647) → v2307 = (H2282 r0 18) := by
                              rw [e2308]
                              exact fun h => wq_w_id h
                            have _t := @str_m (xset d) v2151 _ _ (by omega) (by omega) e2308
                            have h2311 : DD T H2282 r0  := (DD_fr w2153 g0 f2290 rfl (DD_fr w1914 g0 f2154 rfl (DD_fr w1891 g0 ((wfr.rf (l := [(27, 18)])).put' e1913 g0 rfl) rfl (DD_fr w1769 g0 f1892 rfl (DD_fr w1682 g0 f1770 rfl (DD_fr w1667 g0 f1683 rfl (DD_fr hW g0 f1668 rfl hDD_r0)))))))
                            refine wp_of e44 c44_141 (xp_I (pc' := 144) lf_7_107 w2289 g2186 sh_35 (by decide) (by decide) ty_35_17 rfl rfl (b2309.1) (b2309.2) ⟨b2309.1, b2309.2⟩ rfl (fun H2312 e2313 w2314 => ?_))
                            have f2315 := f2293.put' e2313 g2186 rfl
                            have f2316 := f2294.put' e2313 g2186 rfl
                            have k2317 : H2312 r2184 17 = v2307 := wq_u_s e2313
                            have h2318 : CS T H2312 r0 (xset d) (v2151 + 1) := CS_17 h2311 q2297 g2183 g0 q2303 g2186 (k := (v2151).toNat) (by omega) (by omega) (by omega) e2313 h2300
                            refine wp_of e44 c44_144 (rw_aload_n (pc' := 145) (v := .ref r0) rfl rfl rfl ?_)
                            refine wp_of e44 c44_145 (rw_dup (pc' := 146) rfl rfl ?_)
                            have k2319 : H2312 r0 18 = H2282 r0 18 := (wq_u_t e2313 g2186 g0 rfl 18)
                            refine wp_of e44 c44_146 (xg_L (pc' := 149) lf_7_71 w2314 g0 sh_27 (by decide) (by decide) ty_27_18 rfl rfl (fun b2320 b2321 => ?_))
                            refine wp_of e44 c44_149 (rw_aload_n (pc' := 150) (v := .ref r0) rfl rfl rfl ?_)
                            have k2322 : H2312 r0 0 = H2282 r0 0 := (wq_u_t e2313 g2186 g0 rfl 0)
                            have q2323 : H2312 r0 0 = (r2181 : Int) := k2322.trans q2297
                            refine wp_of e44 c44_150 (xg_K (pc' := 153) lf_7_11 w2314 g0 sh_27 (by decide) (by decide) rfl q2323 rfl ?_)
                            refine wp_of e44 c44_153 (rw_iload_n (pc' := 154) (z := v2151) rfl rfl ?_)
                            have k2324 : H2312 r2181 (v2151.toNat) = H2282 r2181 (v2151.toNat) := (wq_u_t e2313 g2186 g2183 rfl (v2151.toNat))
                            have q2325 : H2312 r2181 (v2151.toNat) = (r2184 : Int) := k2324.trans q2303
                            refine wp_of e44 c44_154 (xa_K (pc' := 155) (by decide) w2314 g2183 sh_28 (by decide) (by omega) (Int.lt_of_le_of_lt b2155.2 (by decide)) q2325 rfl ?_)
                            have k2326 : H2312 r2184 15 = H2282 r2184 15 := (wq_u_j e2313 rfl)
                            refine wp_of e44 c44_155 (xg_I (pc' := 158) lf_7_110 w2314 g2186 sh_35 (by decide) (by decide) ty_35_15 rfl rfl (fun b2327 b2328 => ?_))
                            refine wp_of e44 c44_158 (rw_i2l (pc' := 159) rfl ⟨Int.le_trans (by decide) b2327, Int.le_trans b2328 (by decide)⟩ ?_)
                            refine wp_of e44 c44_159 (rw_lmulw (pc' := 160) rfl ?_)
                            obtain ⟨v2329, e2330⟩ : ∃ x : Int, x = wl_w ((H2312 r0 18) * (H2312 r2184 15)) := ⟨_, rfl⟩
                            rw [← e2330]
                            have b2331 : -9223372036854775808 ≤ v2329 ∧ v2329 ≤ 9223372036854775807 := by
                              rw [e2330]
                              exact wL_w _
                            have b2332 : (-9223372036854775808 ≤ (H2312 r0 18) * (H2312 r2184 15) ∧ (H2312 r0 18) * (H2312 r2184 15) ≤ 9223372036854775807) → v2329 = (H2312 r0 18) * (H2312 r2184 15) := fun h => by rw [e2330]; exact wl_w_id h
                            have _e := @xpr_m (xset d) v2151 _ _ _ (xdP_set p0) (by omega) (by omega) (by omega) (by omega) (by omega) e2330
                            refine wp_of e44 c44_160 (xp_L (pc' := 163) lf_7_71 w2314 g0 sh_27 (by decide) (by decide) ty_27_18 rfl rfl (b2331.1) (b2331.2) ⟨b2331.1, b2331.2⟩ rfl (fun H2333 e2334 w2335 => ?_))
                            have f2336 := f2315.put' e2334 g0 rfl
                            have f2337 := f2316.put' e2334 g0 rfl
                            have k2338 : H2333 r0 18 = v2329 := wq_u_s e2334
                            have k2339 : H2333 r2184 17 = H2312 r2184 17 := (wq_u_t e2334 g0 g2186 rfl 17)
                            have k2340 : H2333 r2181 (v2151.toNat) = H2312 r2181 (v2151.toNat) := (wq_u_t e2334 g0 g2183 rfl (v2151.toNat))
                            have q2341 : H2333 r2181 (v2151.toNat) = (r2184 : Int) := k2340.trans q2325
                            have h2342 : PS T H2333 r2184 ((xset d)) ((v2151).toNat) (xsp ((xset d)) ((v2151).toNat)) := (PS_fr w2314 g2186 ((wfr.rf (l := [(27, 18)])).put' e2334 g0 rfl) rfl (PS_fr w2289 g2186 ((wfr.rf (l := [(35, 17)])).put' e2313 g2186 rfl) rfl h2295))
                            have k2343 : H2333 r0 0 = H2312 r0 0 := (wq_u_j e2334 rfl)
                            have q2344 : H2333 r0 0 = (r2181 : Int) := k2343.trans q2323
                            have h2345 : CS T H2333 r0 (xset d) (v2151 + 1) := (CS_fr w2314 g0 ((wfr.rf (l := [(27, 18)])).put' e2334 g0 rfl) rfl h2318)
                            have h2346 : CS T H2333 r0 (xset d) ((v2151 + (-1)) + 1) := CS_ge (CS_cons (i := v2151) (k := (v2151).toNat) q2344 q2341 g2186 h2342 (by omega) (by omega) h2345) (by omega)
                            have h2347 : CZ T H2333 r0 (v2151) := (CZ_fr w2314 g0 ((wfr.rf (l := [(27, 18)])).put' e2334 g0 rfl) rfl (CZ_fr w2289 g0 ((wfr.rf (l := [(35, 17)])).put' e2313 g2186 rfl) rfl h2301))
                            have h2348 : CZ T H2333 r0 ((v2151 + (-1)) + 1) := CZ_le h2347 (by omega)
                            refine wp_of e44 c44_163 (rw_iinc (pc' := 166) (z := v2151) (L' := [(2, vI (v2151 + (-1))), (1, vI z1640), (0, .ref r0)]) rfl rfl rfl rfl ?_)
                            refine wp_of e44 c44_166 (rw_goto (p1 := 98) (by decide) ?_)
                            exact wp_lc (ks := [2, 1, 0]) (wl_c rfl (wl_c rfl (wl_c rfl wl_n))) rfl (by decide) (ih2150 _ (by omega) (v2151 + (-1)) H2333 w2335 f2337 ⟨by omega, by omega⟩ h2346 h2348 (by omega) (by rw [show v2151 + (-1) + 1 = v2151 by omega]; omega) rfl)
                    have _w := @xpr_z (xset d) (((H1912 r0 10) - 1) + 1).toNat (by omega)
                    have h2349 : CS T H1912 r0 (xset d) (((H1912 r0 10) - 1) + 1) := CS_0 (xdP_set p0) (by omega)
                    have h2350 : CZ T H1912 r0 (d 0 3) := (CZ_fr w1891 g0 ((wfr.rf (l := [(27, 18)])).put' e1913 g0 rfl) rfl h1910)
                    have h2351 : CZ T H1912 r0 (((H1912 r0 10) - 1) + 1) := CZ_le h2350 (by omega)
                    exact wp_lc (ks := [2, 1, 0]) (wl_c rfl (wl_c rfl (wl_c rfl wl_n))) rfl (by decide) (lp2148 _ ((H1912 r0 10) - 1) H1912 w1914 wfr.rf ⟨by omega, by omega⟩ h2349 h2351 (by omega) (by omega) rfl)
                  · refine wp_of e44 c44_70 (rw_aload_n (pc' := 71) (v := .ref r0) rfl rfl rfl ?_)
                    refine wp_of e44 c44_71 (xg_R (pc' := 74) lf_7_33 w1891 g0 sh_27 (by decide) (by decide) ty_27_6 rfl rfl (fun r2352 q2353 g2354 => ?_))
                    refine wp_of e44 c44_74 (rw_iload_n (pc' := 75) (z := v1889) rfl rfl ?_)
                    refine wp_of e44 c44_75 (rw_dup2 (pc' := 76) rfl rfl rfl ?_)
                    refine wp_of e44 c44_76 (xa_I (so := 0) (pc' := 77) w1891 g2354 sh_34 (by decide) (ty_34 _) (b1893.1) (by omega) rfl (fun b2355 b2356 => ?_))
                    have _d := DA_at h1895 q2353 (k := (v1889.toNat)) (by omega)
                    refine wp_of e44 c44_77 (rw_iload_n (pc' := 78) (z := z1640) rfl rfl ?_)
                    refine wp_of e44 c44_78 (rw_iand (pc' := 79) rfl ?_)
                    obtain ⟨v2357, e2358⟩ : ∃ x : Int, x = wq_and (H1890 r2352 (v1889.toNat)) z1640 := ⟨_, rfl⟩
                    rw [← e2358]
                    have b2359 : 0 ≤ v2357 ∧ v2357 ≤ z1640 := by
                      rw [e2358]
                      exact wq_and_b _ (by omega) (by omega)
                    refine wp_of e44 c44_79 (xs_I (pc' := 80) w1891 g2354 (by decide) sh_34 (by decide) (ty_34 _) (by omega) (by omega) ⟨by omega, by omega⟩ (b1893.1) (by omega) rfl (fun H2360 e2361 w2362 => ?_))
                    have f2363 := f1897.put' e2361 g2354 rfl
                    have f2364 := f1892.put' e2361 g2354 rfl
                    have h2365 : DA6 T H2360 r0 (d 0 7) (xmk (d 16) (xal d) (v1889 + 1)) := DAo_set h1895 q2353 g0 g2354 (by decide) e2361 (xmk_k (by omega) e2358 _d _al) (xmk_c (by omega)).2.1
                    refine wp_of e44 c44_80 (rw_iinc (pc' := 83) (z := v1889) (L' := [(2, vI (v1889 + 1)), (1, vI z1640), (0, .ref r0)]) rfl rfl rfl rfl ?_)
                    refine wp_of e44 c44_83 (rw_goto (p1 := 62) (by decide) ?_)
                    exact wp_lc (ks := [2, 1, 0]) (wl_c rfl (wl_c rfl (wl_c rfl wl_n))) rfl (by decide) (ih1888 _ (by omega) (v1889 + 1) H2360 w2362 f2364 ⟨by omega, by omega⟩ h2365 (by omega) rfl)
              have h2366 : DA6 T H1768 r0 (d 0 7) (d 16) := (DA6_fr w1682 g0 f1770 rfl (DA6_fr w1667 g0 f1683 rfl (DA6_fr hW g0 f1668 rfl h1632)))
              have h2367 : DA6 T H1768 r0 (d 0 7) (xmk (d 16) (xal d) 0) := by rw [xmk_0]; exact h2366
              exact wp_lc (ks := [2, 1, 0]) (wl_c rfl (wl_c rfl (wl_c rfl wl_n))) rfl (by decide) (lp1886 _ 0 H1768 w1769 wfr.rf ⟨by decide, by decide⟩ h2367 (by omega) rfl)
            · refine wp_of e44 c44_44 (rw_aload_n (pc' := 45) (v := .ref r0) rfl rfl rfl ?_)
              refine wp_of e44 c44_45 (xg_R (pc' := 48) lf_7_30 w1769 g0 sh_27 (by decide) (by decide) ty_27_5 rfl rfl (fun r2368 q2369 g2370 => ?_))
              refine wp_of e44 c44_48 (rw_iload_n (pc' := 49) (z := v1767) rfl rfl ?_)
              refine wp_of e44 c44_49 (rw_dup2 (pc' := 50) rfl rfl rfl ?_)
              refine wp_of e44 c44_50 (xa_I (so := 0) (pc' := 51) w1769 g2370 sh_33 (by decide) (ty_33 _) (b1771.1) (by omega) rfl (fun b2371 b2372 => ?_))
              have _d := DA_at h1773 q2369 (k := (v1767.toNat)) (by omega)
              refine wp_of e44 c44_51 (rw_iload_n (pc' := 52) (z := z1640) rfl rfl ?_)
              refine wp_of e44 c44_52 (rw_iand (pc' := 53) rfl ?_)
              obtain ⟨v2373, e2374⟩ : ∃ x : Int, x = wq_and (H1768 r2368 (v1767.toNat)) z1640 := ⟨_, rfl⟩
              rw [← e2374]
              have b2375 : 0 ≤ v2373 ∧ v2373 ≤ z1640 := by
                rw [e2374]
                exact wq_and_b _ (by omega) (by omega)
              refine wp_of e44 c44_53 (xs_I (pc' := 54) w1769 g2370 (by decide) sh_33 (by decide) (ty_33 _) (by omega) (by omega) ⟨by omega, by omega⟩ (b1771.1) (by omega) rfl (fun H2376 e2377 w2378 => ?_))
              have f2379 := f1775.put' e2377 g2370 rfl
              have f2380 := f1770.put' e2377 g2370 rfl
              have h2381 : DA5 T H2376 r0 (d 0 6) (xmk (d 15) (xal d) (v1767 + 1)) := DAo_set h1773 q2369 g0 g2370 (by decide) e2377 (xmk_k (by omega) e2374 _d _al) (xmk_c (by omega)).2.1
              refine wp_of e44 c44_54 (rw_iinc (pc' := 57) (z := v1767) (L' := [(2, vI (v1767 + 1)), (1, vI z1640), (0, .ref r0)]) rfl rfl rfl rfl ?_)
              refine wp_of e44 c44_57 (rw_goto (p1 := 36) (by decide) ?_)
              exact wp_lc (ks := [2, 1, 0]) (wl_c rfl (wl_c rfl (wl_c rfl wl_n))) rfl (by decide) (ih1766 _ (by omega) (v1767 + 1) H2376 w2378 f2380 ⟨by omega, by omega⟩ h2381 (by omega) rfl)
        have h2382 : DA5 T H1678 r0 (d 0 6) (d 15) := (DA5_fr w1667 g0 f1683 rfl (DA5_fr hW g0 f1668 rfl h1631))
        have h2383 : DA5 T H1678 r0 (d 0 6) (xmk (d 15) (xal d) 0) := by rw [xmk_0]; exact h2382
        exact wp_lc (ks := [2, 1, 0]) (wl_c rfl (wl_c rfl (wl_c rfl wl_n))) rfl (by decide) (lp1764 _ 0 H1678 w1682 wfr.rf ⟨by decide, by decide⟩ h2383 (by omega) rfl)
      · refine wp_of e44 c44_16 (rw_aload_n (pc' := 17) (v := .ref r0) rfl rfl rfl ?_)
        refine wp_of e44 c44_17 (xg_R (pc' := 20) lf_7_17 w1667 g0 sh_27 (by decide) (by decide) ty_27_1 rfl rfl (fun r2384 q2385 g2386 => ?_))
        refine wp_of e44 c44_20 (rw_iload_n (pc' := 21) (z := v1665) rfl rfl ?_)
        refine wp_of e44 c44_21 (rw_bipush (pc' := 23) (z := -2) rfl (by decide) ?_)
        refine wp_of e44 c44_23 (xs_I (pc' := 24) w1667 g2386 (by decide) sh_29 (by decide) (ty_29 _) (by decide) (by decide) ⟨by decide, by decide⟩ (b1669.1) (by omega) rfl (fun H2387 e2388 w2389 => ?_))
        have f2390 := f1673.put' e2388 g2386 rfl
        have f2391 := f1668.put' e2388 g2386 rfl
        have h2392 : ST T H2387 r0 (xcu (d 13) (d 0 0) (v1665 + 1)) := ST_put (w := 0) h1671 q2385 g0 g2386 e2388 (Or.inr ⟨rfl, rfl⟩) (xcu_c (by omega) (by omega)).1 (xcu_c (by omega) (by omega)).2
        refine wp_of e44 c44_24 (rw_iinc (pc' := 27) (z := v1665) (L' := [(2, vI (v1665 + 1)), (1, vI z1640), (0, .ref r0)]) rfl rfl rfl rfl ?_)
        refine wp_of e44 c44_27 (rw_goto (p1 := 10) (by decide) ?_)
        exact wp_lc (ks := [2, 1, 0]) (wl_c rfl (wl_c rfl (wl_c rfl wl_n))) rfl (by decide) (ih1664 _ (by omega) (v1665 + 1) H2387 w2389 f2391 ⟨by omega, by omega⟩ h2392 (by omega) rfl)
  have h2393 : ST T H r0 (xcu (d 13) (d 0 0) (H r0 7)) := by rw [show (H r0 7) = d 0 0 by omega, xcu_0]; exact h1627
  exact wp_lc (ks := [2, 1, 0]) (wl_c rfl (wl_c rfl (wl_c rfl wl_n))) rfl (by decide) (lp1662 _ (H r0 7) H hW wfr.rf ⟨b1644, b1645⟩ h2393 (by omega) rfl)
/-! StrikeAwake$Census.forget()V  -/
abbrev uq_50 (r0 : Nat) (T : wq_T) (H : wq_H) : Option Value → wq_T → wq_H → Prop := fun r T' H' => T = T' ∧ WT T H' ∧ wfr [(12, 9)] T H H' ∧ none = r ∧ (((H' r0 9 = 0)))
set_option maxHeartbeats 4000000 in
theorem u_50 {kt : Nat → Option mc_E} {T : wq_T} {H : wq_H} {r0 : Nat} (hW : WT T H) (g0 : T.2.2.2 r0 = some 12) : wpc kt 1 50 [.ref r0] T H (uq_50 r0 T H) := by
  refine wp_enter e50 (Nat.le_of_ble_eq_true rfl) rfl ?_
  have f0 : wfr [(12, 9)] T H H := wfr.rf
  show wp _ _ 50 0 [(0, .ref r0)] [] _ H _
  refine wp_of e50 c50_0 (rw_aload_n (pc' := 1) (v := .ref r0) rfl rfl rfl ?_)
  refine wp_of e50 c50_1 (rw_iconst (pc' := 2) rfl ?_)
  refine wp_of e50 c50_2 (xp_Z (pc' := 5) lf_4_32 hW g0 sh_12 (by decide) (by decide) ty_12_9 rfl rfl (by decide) (by decide) rfl (fun H1006 e1007 w1008 => ?_))
  have f1009 := f0.put' e1007 g0 rfl
  have k1010 : H1006 r0 9 = 0 := wq_u_s e1007
  exact wp_return e50 c50_5 rfl ⟨rfl, w1008, f1009, rfl, (by omega)⟩
