/-! what methods do (own work, written by wip/gen3/sx3.py) -/
/-! StrikeAwake$Census.peopleAwake(LStrikeAwake$Parish;II)I  -/
abbrev uq_116 (r0 : Nat) (a1 : Int) (a2 : Int) (e : xD) (d : xD) (n : Int) (T : wq_T) (H : wq_H) : Option Value → wq_T → wq_H → Prop := fun r T' H' => T = T' ∧ H = H' ∧ ∃ z : Int, some (vI z) = r ∧ (0 ≤ z ∧ z ≤ 16777215) ∧ (((z = xpa d (xlot d a1) (a2).toNat)))
set_option maxHeartbeats 4000000 in
theorem u_116 {kt : Nat → Option mc_E} {T : wq_T} {H : wq_H} {r0 : Nat} {a1 : Int} {a2 : Int} {e : xD} {d : xD} {n : Int} (hW : WT T H) (g0 : T.2.2.2 r0 = some 27) (i1 : 0 ≤ a1 ∧ a1 ≤ 19999) (i2 : 0 ≤ a2 ∧ a2 ≤ 23) (p0 : ∀ i, i ≠ 13 → e i = d i) (p1 : XW d) (p2 : e 0 3 = d 0 3) (p3 : n = xlots d) (p4 : a1 < n) (hCU_r0 : CU T H r0 e d n) : wpc kt 3 116 [.ref r0, vI a1, vI a2] T H (uq_116 r0 a1 a2 e d n T H) := by
  refine wp_enter e116 (Nat.le_of_ble_eq_true rfl) rfl ?_
  show wp _ _ 116 0 [(0, .ref r0), (1, vI a1), (2, vI a2)] [] _ H _
  have u1281 := CU_k hCU_r0
  have _k := CU_k hCU_r0
  have _xc := p1.2.1
  unfold XC at _xc
  have _d0 := p0 0 (by decide)
  have _e3 : e 0 3 = d 0 3 := by rw [_d0]
  have _e4 : e 0 4 = d 0 4 := by rw [_d0]
  have _e5 : e 0 5 = d 0 5 := by rw [_d0]
  refine wp_of e116 c116_0 (rw_iconst (pc' := 1) rfl ?_)
  refine wp_of e116 c116_1 (rw_istore_n (pc' := 2) (z := 0) (L' := [(3, vI 0), (0, .ref r0), (1, vI a1), (2, vI a2)]) rfl rfl rfl ?_)
  refine wp_of e116 c116_2 (rw_iconst (pc' := 3) rfl ?_)
  refine wp_of e116 c116_3 (rw_istore (pc' := 5) (z := 0) (L' := [(4, vI 0), (3, vI 0), (0, .ref r0), (1, vI a1), (2, vI a2)]) rfl rfl rfl ?_)
  have lp1527 : ∀ (n1528 : Nat) (v1530 : Int) (v1531 : Int), (0 ≤ v1530 ∧ v1530 ≤ 6) → (0 ≤ v1531 ∧ v1531 ≤ 16777215) → (v1530 ≤ d 0 3) → (v1531 = xob (fun p => decide (hb (xwb d (xlot d a1) p) (a2).toNat = 1)) (v1530).toNat) → (6 - v1530).toNat = n1528 → wp kt 2 116 5 [(4, vI v1530), (3, vI v1531), (0, .ref r0), (1, vI a1), (2, vI a2)] [] T H (uq_116 r0 a1 a2 e d n T H) := by
    intro n1528
    induction n1528 using Nat.strongRecOn with
    | _ n1528 ih1529 =>
      intro v1530 v1531 b1534 b1535 x1537 x1538 m1536
      refine wp_of e116 c116_5 (rw_iload (pc' := 7) (z := v1530) rfl rfl ?_)
      refine wp_of e116 c116_7 (rw_aload_n (pc' := 8) (v := .ref r0) rfl rfl rfl ?_)
      refine wp_of e116 c116_8 (xg_I (pc' := 11) lf_4_75 hW g0 sh_27 (by decide) (by decide) ty_27_10 rfl rfl (fun b1539 b1540 => ?_))
      refine wp_of e116 c116_11 (rw_icmp_ge (p1 := 41) (p2 := 14) (by decide) rfl ⟨Int.le_trans (by decide) b1534.1, Int.le_trans b1534.2 (by decide)⟩ ⟨Int.le_trans (by decide) b1539, Int.le_trans b1540 (by decide)⟩ (fun c1541 => ?_) (fun c1541 => ?_))
      · refine wp_of e116 c116_41 (rw_iload_n (pc' := 42) (z := v1531) rfl rfl ?_)
        exact wp_ireturn e116 c116_42 rfl ⟨rfl, rfl, v1531, rfl, ⟨b1535.1, b1535.2⟩, (by show _ = xob (fun p => decide (hb (xwb d (xlot d a1) p) (a2).toNat = 1)) (d 0 3).toNat; rw [show (d 0 3).toNat = (v1530).toNat by omega]; assumption)⟩
      · refine wp_of e116 c116_14 (rw_aload_n (pc' := 15) (v := .ref r0) rfl rfl rfl ?_)
        refine wp_of e116 c116_15 (rw_iload_n (pc' := 16) (z := a1) rfl rfl ?_)
        refine wp_of e116 c116_16 (rw_iload (pc' := 18) (z := v1530) rfl rfl ?_)
        refine wp_of e116 c116_18 (xc_S (pc' := 21) (as := [.ref r0, vI a1, vI v1530]) (st := []) (lm_4_132) rfl rfl (Nat.le_of_ble_eq_true rfl) rfl (by decide) (u_111 (e := e) (d := d) (n := n) hW g0 ⟨i1.1, i1.2⟩ ⟨b1534.1, by omega⟩ (by assumption) (by assumption) (by omega) (by omega) (by omega) (by omega) hCU_r0) (fun R1542 T1543 H1544 p1545 => ?_))
        obtain ⟨e1546, e1548, z1549, e1547, b1550, p1551⟩ := p1545
        subst e1546
        subst e1547
        subst e1548
        show wp _ _ 116 21 [(4, vI v1530), (3, vI v1531), (0, .ref r0), (1, vI a1), (2, vI a2)] [vI z1549] _ H _
        have _hv := hb_and (b := xwb d (xlot d a1) (v1530).toNat) (h := (a2).toNat) (by have := @xwb_b d (xlot d a1) (v1530).toNat; omega) (by omega)
        rw [Int.toNat_of_nonneg (by omega : 0 ≤ a2), ← (show z1549 = xwb d (xlot d a1) (v1530).toNat by omega)] at _hv
        have _hw : hb (xwb d (xlot d a1) (v1530).toNat) (a2).toNat = hb (z1549) (a2).toNat := by rw [show z1549 = xwb d (xlot d a1) (v1530).toNat by omega]
        have _hc := @hb_b (z1549) (a2).toNat
        refine wp_of e116 c116_21 (rw_iload_n (pc' := 22) (z := a2) rfl rfl ?_)
        refine wp_of e116 c116_22 (xc_S (pc' := 25) (as := [vI z1549, vI a2]) (st := []) (lm_4_122) rfl rfl (Nat.le_of_ble_eq_true rfl) rfl (by decide) (u_36  hW ⟨Int.le_trans (by decide) b1550.1, Int.le_trans b1550.2 (by decide)⟩ ⟨Int.le_trans (by decide) i2.1, Int.le_trans i2.2 (by decide)⟩) (fun R1553 T1554 H1555 p1556 => ?_))
        obtain ⟨e1557, e1559, z1560, e1558, b1561, p1562⟩ := p1556
        subst e1557
        subst e1558
        subst e1559
        rcases p1562 with ⟨a1563, a1564⟩ | ⟨a1565, a1566⟩
        · show wp _ _ 116 25 [(4, vI v1530), (3, vI v1531), (0, .ref r0), (1, vI a1), (2, vI a2)] [vI z1560] _ H _
          refine wp_of e116 c116_25 (rw_if_eq (p1 := 35) (p2 := 28) (by decide) rfl ⟨Int.le_trans (by decide) b1561.1, Int.le_trans b1561.2 (by decide)⟩ (fun c1567 => ?_) (fun c1567 => ?_))
          · exfalso
            omega
          · refine wp_of e116 c116_28 (rw_iload_n (pc' := 29) (z := v1531) rfl rfl ?_)
            refine wp_of e116 c116_29 (rw_iconst (pc' := 30) rfl ?_)
            refine wp_of e116 c116_30 (rw_iload (pc' := 32) (z := v1530) rfl rfl ?_)
            refine wp_of e116 c116_32 (rw_ishl (pc' := 33) rfl ?_)
            obtain ⟨v1568, e1569⟩ : ∃ x : Int, x = wq_shl 1 v1530 := ⟨_, rfl⟩
            rw [← e1569]
            have b1570 : 1 ≤ v1568 ∧ v1568 ≤ 64 := by
              rw [e1569]
              exact wq_shl1_6 ⟨by omega, by omega⟩
            refine wp_of e116 c116_33 (rw_ior (pc' := 34) rfl ?_)
            obtain ⟨v1571, e1572⟩ : ∃ x : Int, x = wq_or v1531 v1568 := ⟨_, rfl⟩
            rw [← e1572]
            have b1573 : 0 ≤ v1571 ∧ v1571 ≤ 16777215 := by
              rw [e1572]
              exact wq_or_24 ⟨by omega, by omega⟩ ⟨by omega, by omega⟩
            refine wp_of e116 c116_34 (rw_istore_n (pc' := 35) (z := v1571) (L' := [(3, vI v1571), (4, vI v1530), (0, .ref r0), (1, vI a1), (2, vI a2)]) rfl rfl rfl ?_)
            have _q : v1571 = xob (fun p => decide (hb (xwb d (xlot d a1) p) (a2).toNat = 1)) (v1530 + 1).toNat := by
              rw [xob_s (by omega) (decide_eq_true (by omega)), ← ‹v1531 = xob (fun p => decide (hb (xwb d (xlot d a1) p) (a2).toNat = 1)) (v1530).toNat›, ← e1569]
              exact e1572
            refine wp_of e116 c116_35 (rw_iinc (pc' := 38) (z := v1530) (L' := [(4, vI (v1530 + 1)), (3, vI v1571), (0, .ref r0), (1, vI a1), (2, vI a2)]) rfl rfl rfl rfl ?_)
            refine wp_of e116 c116_38 (rw_goto (p1 := 5) (by decide) ?_)
            exact wp_lc (ks := [4, 3, 0, 1, 2]) (wl_c rfl (wl_c rfl (wl_c rfl (wl_c rfl (wl_c rfl wl_n))))) rfl (by decide) (ih1529 _ (by omega) (v1530 + 1) v1571 ⟨by omega, by omega⟩ ⟨b1573.1, b1573.2⟩ (by omega) (_q) rfl)
        · show wp _ _ 116 25 [(4, vI v1530), (3, vI v1531), (0, .ref r0), (1, vI a1), (2, vI a2)] [vI z1560] _ H _
          refine wp_of e116 c116_25 (rw_if_eq (p1 := 35) (p2 := 28) (by decide) rfl ⟨Int.le_trans (by decide) b1561.1, Int.le_trans b1561.2 (by decide)⟩ (fun c1574 => ?_) (fun c1574 => ?_))
          · have _q : v1531 = xob (fun p => decide (hb (xwb d (xlot d a1) p) (a2).toNat = 1)) (v1530 + 1).toNat := by
              rw [xob_n (by omega) (decide_eq_false (by omega))]
              assumption
            refine wp_of e116 c116_35 (rw_iinc (pc' := 38) (z := v1530) (L' := [(4, vI (v1530 + 1)), (3, vI v1531), (0, .ref r0), (1, vI a1), (2, vI a2)]) rfl rfl rfl rfl ?_)
            refine wp_of e116 c116_38 (rw_goto (p1 := 5) (by decide) ?_)
            exact wp_lc (ks := [4, 3, 0, 1, 2]) (wl_c rfl (wl_c rfl (wl_c rfl (wl_c rfl (wl_c rfl wl_n))))) rfl (by decide) (ih1529 _ (by omega) (v1530 + 1) v1531 ⟨by omega, by omega⟩ ⟨b1535.1, b1535.2⟩ (by omega) (_q) rfl)
          · exfalso
            omega
  exact wp_lc (ks := [4, 3, 0, 1, 2]) (wl_c rfl (wl_c rfl (wl_c rfl (wl_c rfl (wl_c rfl wl_n))))) rfl (by decide) (lp1527 _ 0 0 ⟨by decide, by decide⟩ ⟨by decide, by decide⟩ (by omega) (rfl) rfl)
/-! StrikeAwake$Census.awakeBeside(LStrikeAwake$Parish;II)I  -/
abbrev uq_115 (r0 : Nat) (r1 : Nat) (a2 : Int) (a3 : Int) (e : xD) (d : xD) (n : Int) (T : wq_T) (H : wq_H) : Option Value → wq_T → wq_H → Prop := fun r T' H' => T = T' ∧ H = H' ∧ ∃ z : Int, some (vI z) = r ∧ (0 ≤ z ∧ z ≤ 16777215) ∧ (((z = wfd (xwf e d) (fun n x => if hb (xsb d (xlot d ((n : Nat) : Int)) (a2).toNat) (a3).toNat = 1 then wq_or x (xpa d (xlot d ((n : Nat) : Int)) (a3).toNat) else x) 0 (xlots d).toNat)))
set_option maxHeartbeats 4000000 in
theorem u_115 {kt : Nat → Option mc_E} {T : wq_T} {H : wq_H} {r0 : Nat} {r1 : Nat} {a2 : Int} {a3 : Int} {e : xD} {d : xD} {n : Int} (hW : WT T H) (g0 : T.2.2.2 r0 = some 12) (g1 : T.2.2.2 r1 = some 27) (i2 : 0 ≤ a2 ∧ a2 ≤ 5) (i3 : 0 ≤ a3 ∧ a3 ≤ 23) (p0 : ∀ i, i ≠ 13 → e i = d i) (p1 : XW d) (p2 : e 0 3 = d 0 3) (p3 : n = xlots d) (p4 : n ≤ 20000) (p5 : a2 < d 0 3) (hCU_r1 : CU T H r1 e d n) (hCEM_r0 : CEM T H r0 (xwf e d) (xlots d).toNat) : wpc kt 4 115 [.ref r0, .ref r1, vI a2, vI a3] T H (uq_115 r0 r1 a2 a3 e d n T H) := by
  refine wp_enter e115 (Nat.le_of_ble_eq_true rfl) rfl ?_
  show wp _ _ 115 0 [(0, .ref r0), (1, .ref r1), (2, vI a2), (3, vI a3)] [] _ H _
  have u1685 := CU_k hCU_r1
  have b1686 : (-9223372036854775808) ≤ H r1 18 ∧ H r1 18 ≤ 9223372036854775807 := hW.box g1 (n := 19) rfl (by decide) rfl
  have _k := CU_k hCU_r1
  have _xc := p1.2.1
  unfold XC at _xc
  have _d0 := p0 0 (by decide)
  have _e3 : e 0 3 = d 0 3 := by rw [_d0]
  have _e4 : e 0 4 = d 0 4 := by rw [_d0]
  have _e5 : e 0 5 = d 0 5 := by rw [_d0]
  have _c18 := hCU_r1.2.2
  have _x0 : 0 ≤ xlots d := (xpr_b hCU_r1.2.1.1 _ _).1
  refine wp_of e115 c115_0 (rw_iconst (pc' := 1) rfl ?_)
  refine wp_of e115 c115_1 (rw_istore (pc' := 3) (z := 0) (L' := [(4, vI 0), (0, .ref r0), (1, .ref r1), (2, vI a2), (3, vI a3)]) rfl rfl rfl ?_)
  refine wp_of e115 c115_3 (rw_iconst (pc' := 4) rfl ?_)
  refine wp_of e115 c115_4 (rw_istore (pc' := 6) (z := 0) (L' := [(5, vI 0), (4, vI 0), (0, .ref r0), (1, .ref r1), (2, vI a2), (3, vI a3)]) rfl rfl rfl ?_)
  have lp2295 : ∀ (n2296 : Nat) (v2298 : Int) (v2299 : Int), (0 ≤ v2298 ∧ v2298 ≤ 20000) → (0 ≤ v2299 ∧ v2299 ≤ 16777215) → (v2298 ≤ xlots d) → (v2299 = wfd (xwf e d) (fun n x => if hb (xsb d (xlot d ((n : Nat) : Int)) (a2).toNat) (a3).toNat = 1 then wq_or x (xpa d (xlot d ((n : Nat) : Int)) (a3).toNat) else x) 0 (v2298).toNat) → (20000 - v2298).toNat = n2296 → wp kt 3 115 6 [(5, vI v2298), (4, vI v2299), (0, .ref r0), (1, .ref r1), (2, vI a2), (3, vI a3)] [] T H (uq_115 r0 r1 a2 a3 e d n T H) := by
    intro n2296
    induction n2296 using Nat.strongRecOn with
    | _ n2296 ih2297 =>
      intro v2298 v2299 b2302 b2303 x2305 x2306 m2304
      refine wp_of e115 c115_6 (rw_iload (pc' := 8) (z := v2298) rfl rfl ?_)
      refine wp_of e115 c115_8 (rw_i2l (pc' := 9) rfl ⟨Int.le_trans (by decide) b2302.1, Int.le_trans b2302.2 (by decide)⟩ ?_)
      refine wp_of e115 c115_9 (rw_aload_n (pc' := 10) (v := .ref r1) rfl rfl rfl ?_)
      refine wp_of e115 c115_10 (xg_L (pc' := 13) lf_4_45 hW g1 sh_27 (by decide) (by decide) ty_27_18 rfl rfl (fun b2307 b2308 => ?_))
      refine wp_of e115 c115_13 (rw_lcmp (pc' := 14) rfl ⟨Int.le_trans (by decide) b2302.1, Int.le_trans b2302.2 (by decide)⟩ ⟨b2307, b2308⟩ ?_)
      have b2309 := wq_cmp_b v2298 (H r1 18)
      refine wp_of e115 c115_14 (rw_if_ge (p1 := 89) (p2 := 17) (by decide) rfl ⟨by omega, by omega⟩ (fun c2310 => ?_) (fun c2310 => ?_))
      · refine wp_of e115 c115_89 (rw_iload (pc' := 91) (z := v2299) rfl rfl ?_)
        exact wp_ireturn e115 c115_91 rfl ⟨rfl, rfl, v2299, rfl, ⟨b2303.1, b2303.2⟩, (by rw [show (xlots d).toNat = (v2298).toNat by omega]; assumption)⟩
      · refine wp_of e115 c115_17 (rw_iload (pc' := 19) (z := v2298) rfl rfl ?_)
        refine wp_of e115 c115_19 (rw_sipush (pc' := 22) (z := 20000) rfl (by decide) ?_)
        refine wp_of e115 c115_22 (rw_icmp_ge (p1 := 89) (p2 := 25) (by decide) rfl ⟨Int.le_trans (by decide) b2302.1, Int.le_trans b2302.2 (by decide)⟩ ⟨by decide, by decide⟩ (fun c2311 => ?_) (fun c2311 => ?_))
        · refine wp_of e115 c115_89 (rw_iload (pc' := 91) (z := v2299) rfl rfl ?_)
          exact wp_ireturn e115 c115_91 rfl ⟨rfl, rfl, v2299, rfl, ⟨b2303.1, b2303.2⟩, (by rw [show (xlots d).toNat = (v2298).toNat by omega]; assumption)⟩
        · refine wp_of e115 c115_25 (rw_aload_n (pc' := 26) (v := .ref r0) rfl rfl rfl ?_)
          refine wp_of e115 c115_26 (rw_iload (pc' := 28) (z := v2298) rfl rfl ?_)
          refine wp_of e115 c115_28 (xc_V (pc' := 31) (r := r0) (as := [vI v2298]) (st := []) (lm_4_113) rfl rfl (Nat.le_of_ble_eq_true rfl) hW g0 sh_12 (by decide) rfl (by decide) (u_95 (f := ((xwf e d))) (N := ((xlots d).toNat)) hW g0 ⟨b2302.1, by omega⟩ hCEM_r0) (fun R2312 T2313 H2314 p2315 => ?_))
          obtain ⟨e2316, e2318, z2319, e2317, b2320, p2321⟩ := p2315
          subst e2316
          subst e2317
          subst e2318
          rcases p2321 with ⟨a2322, a2323, a2324⟩ | ⟨a2325, a2326⟩
          · show wp _ _ 115 31 [(5, vI v2298), (4, vI v2299), (0, .ref r0), (1, .ref r1), (2, vI a2), (3, vI a3)] [vI z2319] _ H _
            refine wp_of e115 c115_31 (rw_if_eq (p1 := 44) (p2 := 34) (by decide) rfl ⟨Int.le_trans (by decide) b2320.1, Int.le_trans b2320.2 (by decide)⟩ (fun c2327 => ?_) (fun c2327 => ?_))
            · exfalso
              omega
            · refine wp_of e115 c115_34 (rw_aload_n (pc' := 35) (v := .ref r1) rfl rfl rfl ?_)
              refine wp_of e115 c115_35 (rw_iload (pc' := 37) (z := v2298) rfl rfl ?_)
              refine wp_of e115 c115_37 (rw_iload_n (pc' := 38) (z := a2) rfl rfl ?_)
              refine wp_of e115 c115_38 (xc_V (pc' := 41) (r := r1) (as := [vI v2298, vI a2]) (st := []) (lm_4_135) rfl rfl (Nat.le_of_ble_eq_true rfl) hW g1 sh_27 (by decide) rfl (by decide) (u_96 (e := e) (d := d) (n := n) hW g1 ⟨b2302.1, Int.le_trans b2302.2 (by decide)⟩ ⟨i2.1, i2.2⟩ (by omega) (by omega) (by omega) (by omega) hCU_r1) (fun R2328 T2329 H2330 p2331 => ?_))
              obtain ⟨e2332, e2334, z2335, e2333, b2336, p2337⟩ := p2331
              subst e2332
              subst e2333
              subst e2334
              show wp _ _ 115 41 [(5, vI v2298), (4, vI v2299), (0, .ref r0), (1, .ref r1), (2, vI a2), (3, vI a3)] [vI z2335] _ H _
              refine wp_of e115 c115_41 (rw_goto (p1 := 45) (by decide) ?_)
              refine wp_of e115 c115_45 (rw_istore (pc' := 47) (z := z2335) (L' := [(6, vI z2335), (5, vI v2298), (4, vI v2299), (0, .ref r0), (1, .ref r1), (2, vI a2), (3, vI a3)]) rfl rfl rfl ?_)
              have _xb := xlot_b (k := (a2).toNat) (n := v2298) p1.1 (by omega) (by omega) (by omega)
              refine wp_of e115 c115_47 (rw_iload (pc' := 49) (z := z2335) rfl rfl ?_)
              refine wp_of e115 c115_49 (rw_if_lt (p1 := 83) (p2 := 52) (by decide) rfl ⟨Int.le_trans (by decide) b2336.1, Int.le_trans b2336.2 (by decide)⟩ (fun c2339 => ?_) (fun c2339 => ?_))
              · have _q : v2299 = wfd (xwf e d) (fun n x => if hb (xsb d (xlot d ((n : Nat) : Int)) (a2).toNat) (a3).toNat = 1 then wq_or x (xpa d (xlot d ((n : Nat) : Int)) (a3).toNat) else x) 0 (v2298 + 1).toNat := by
                  rw [show (v2298 + 1).toNat = (v2298).toNat + 1 by omega]
                  rw [wfd_y (by omega)]
                  show v2299 = (if hb (xsb d (xlot d (((v2298).toNat : Nat) : Int)) (a2).toNat) (a3).toNat = 1 then wq_or (wfd (xwf e d) (fun n x => if hb (xsb d (xlot d ((n : Nat) : Int)) (a2).toNat) (a3).toNat = 1 then wq_or x (xpa d (xlot d ((n : Nat) : Int)) (a3).toNat) else x) 0 (v2298).toNat) (xpa d (xlot d (((v2298).toNat : Nat) : Int)) (a3).toNat) else wfd (xwf e d) (fun n x => if hb (xsb d (xlot d ((n : Nat) : Int)) (a2).toNat) (a3).toNat = 1 then wq_or x (xpa d (xlot d ((n : Nat) : Int)) (a3).toNat) else x) 0 (v2298).toNat)
                  rw [← ‹v2299 = wfd (xwf e d) (fun n x => if hb (xsb d (xlot d ((n : Nat) : Int)) (a2).toNat) (a3).toNat = 1 then wq_or x (xpa d (xlot d ((n : Nat) : Int)) (a3).toNat) else x) 0 (v2298).toNat›, Int.toNat_of_nonneg (by omega : 0 ≤ v2298)]
                  rw [if_neg (by omega)]
                refine wp_of e115 c115_83 (rw_iinc (pc' := 86) (z := v2298) (L' := [(5, vI (v2298 + 1)), (6, vI z2335), (4, vI v2299), (0, .ref r0), (1, .ref r1), (2, vI a2), (3, vI a3)]) rfl rfl rfl rfl ?_)
                refine wp_of e115 c115_86 (rw_goto (p1 := 6) (by decide) ?_)
                exact wp_lc (ks := [5, 6, 4, 0, 1, 2, 3]) (wl_c rfl (wl_c rfl (wl_c rfl (wl_c rfl (wl_c rfl (wl_c rfl wl_n)))))) rfl (by decide) (ih2297 _ (by omega) (v2298 + 1) v2299 ⟨by omega, by omega⟩ ⟨b2303.1, b2303.2⟩ (by omega) (_q) rfl)
              · refine wp_of e115 c115_52 (rw_aload_n (pc' := 53) (v := .ref r1) rfl rfl rfl ?_)
                refine wp_of e115 c115_53 (xg_R (pc' := 56) lf_4_78 hW g1 sh_27 (by decide) (by decide) ty_27_0 rfl rfl (fun r2340 q2341 g2342 => ?_))
                refine wp_of e115 c115_56 (rw_iload_n (pc' := 57) (z := a2) rfl rfl ?_)
                refine wp_of e115 c115_57 (xa_R (pc' := 58) (by decide) hW g2342 sh_28 (by decide) (ty_28 _) (i2.1) (Int.lt_of_le_of_lt i2.2 (by decide)) rfl (fun r2343 q2344 g2345 => ?_))
                have _z := CS_at (hCU_r1).2.1 q2341 q2344 (k := (a2).toNat) (by omega) (by omega)
                have _l := @xsp_len d (a2).toNat (hCU_r1).2.1.1
                have h2346 : PS T H r2343 d (a2).toNat (xsp d (a2).toNat) := _z.1
                have _n := h2346.1
                refine wp_of e115 c115_58 (xg_R (pc' := 61) lf_4_138 hW g2345 sh_35 (by decide) (by decide) ty_35_2 rfl rfl (fun r2347 q2348 g2349 => ?_))
                refine wp_of e115 c115_61 (rw_iload (pc' := 63) (z := z2335) rfl rfl ?_)
                have _a := DA_at (h2346).2.2.2.1 q2348 (k := (z2335).toNat) (by omega)
                have _x : xr3 d (a2).toNat (xsp d (a2).toNat) (z2335).toNat = xsb d (xlot d v2298) (a2).toNat := by
                  unfold xr3 xsb xpt
                  rw [show xlot d v2298 (a2).toNat = z2335 by omega]
                refine wp_of e115 c115_63 (xa_I (so := 0) (pc' := 64) hW g2349 sh_38 (by decide) (ty_38 _) (by omega) (Int.lt_of_le_of_lt b2336.2 (by decide)) rfl (fun b2350 b2351 => ?_))
                have _hv := hb_and (b := xsb d (xlot d v2298) (a2).toNat) (h := (a3).toNat) (by have := @xsb_b d (xlot d v2298) (a2).toNat; omega) (by omega)
                rw [Int.toNat_of_nonneg (by omega : 0 ≤ a3), ← (show H r2347 (z2335.toNat) = xsb d (xlot d v2298) (a2).toNat by omega)] at _hv
                have _hw : hb (xsb d (xlot d v2298) (a2).toNat) (a3).toNat = hb (H r2347 (z2335.toNat)) (a3).toNat := by rw [show H r2347 (z2335.toNat) = xsb d (xlot d v2298) (a2).toNat by omega]
                have _hc := @hb_b (H r2347 (z2335.toNat)) (a3).toNat
                refine wp_of e115 c115_64 (rw_iload_n (pc' := 65) (z := a3) rfl rfl ?_)
                refine wp_of e115 c115_65 (xc_S (pc' := 68) (as := [vI (H r2347 (z2335.toNat)), vI a3]) (st := []) (lm_4_122) rfl rfl (Nat.le_of_ble_eq_true rfl) rfl (by decide) (u_36  hW ⟨b2350, b2351⟩ ⟨Int.le_trans (by decide) i3.1, Int.le_trans i3.2 (by decide)⟩) (fun R2352 T2353 H2354 p2355 => ?_))
                obtain ⟨e2356, e2358, z2359, e2357, b2360, p2361⟩ := p2355
                subst e2356
                subst e2357
                subst e2358
                rcases p2361 with ⟨a2362, a2363⟩ | ⟨a2364, a2365⟩
                · show wp _ _ 115 68 [(6, vI z2335), (5, vI v2298), (4, vI v2299), (0, .ref r0), (1, .ref r1), (2, vI a2), (3, vI a3)] [vI z2359] _ H _
                  refine wp_of e115 c115_68 (rw_if_eq (p1 := 83) (p2 := 71) (by decide) rfl ⟨Int.le_trans (by decide) b2360.1, Int.le_trans b2360.2 (by decide)⟩ (fun c2366 => ?_) (fun c2366 => ?_))
                  · exfalso
                    omega
                  · refine wp_of e115 c115_71 (rw_iload (pc' := 73) (z := v2299) rfl rfl ?_)
                    refine wp_of e115 c115_73 (rw_aload_n (pc' := 74) (v := .ref r1) rfl rfl rfl ?_)
                    refine wp_of e115 c115_74 (rw_iload (pc' := 76) (z := v2298) rfl rfl ?_)
                    refine wp_of e115 c115_76 (rw_iload_n (pc' := 77) (z := a3) rfl rfl ?_)
                    refine wp_of e115 c115_77 (xc_S (pc' := 80) (as := [.ref r1, vI v2298, vI a3]) (st := [vI v2299]) (lm_4_141) rfl rfl (Nat.le_of_ble_eq_true rfl) rfl (by decide) (u_116 (e := e) (d := d) (n := n) hW g1 ⟨b2302.1, by omega⟩ ⟨i3.1, i3.2⟩ (by assumption) (by assumption) (by omega) (by omega) (by omega) hCU_r1) (fun R2367 T2368 H2369 p2370 => ?_))
                    obtain ⟨e2371, e2373, z2374, e2372, b2375, p2376⟩ := p2370
                    subst e2371
                    subst e2372
                    subst e2373
                    show wp _ _ 115 80 [(6, vI z2335), (5, vI v2298), (4, vI v2299), (0, .ref r0), (1, .ref r1), (2, vI a2), (3, vI a3)] [vI z2374, vI v2299] _ H _
                    refine wp_of e115 c115_80 (rw_ior (pc' := 81) rfl ?_)
                    obtain ⟨v2378, e2379⟩ : ∃ x : Int, x = wq_or v2299 z2374 := ⟨_, rfl⟩
                    rw [← e2379]
                    have b2380 : 0 ≤ v2378 ∧ v2378 ≤ 16777215 := by
                      rw [e2379]
                      exact wq_or_24 ⟨by omega, by omega⟩ ⟨by omega, by omega⟩
                    refine wp_of e115 c115_81 (rw_istore (pc' := 83) (z := v2378) (L' := [(4, vI v2378), (6, vI z2335), (5, vI v2298), (0, .ref r0), (1, .ref r1), (2, vI a2), (3, vI a3)]) rfl rfl rfl ?_)
                    have _q : v2378 = wfd (xwf e d) (fun n x => if hb (xsb d (xlot d ((n : Nat) : Int)) (a2).toNat) (a3).toNat = 1 then wq_or x (xpa d (xlot d ((n : Nat) : Int)) (a3).toNat) else x) 0 (v2298 + 1).toNat := by
                      rw [show (v2298 + 1).toNat = (v2298).toNat + 1 by omega]
                      rw [wfd_y (by omega)]
                      show v2378 = (if hb (xsb d (xlot d (((v2298).toNat : Nat) : Int)) (a2).toNat) (a3).toNat = 1 then wq_or (wfd (xwf e d) (fun n x => if hb (xsb d (xlot d ((n : Nat) : Int)) (a2).toNat) (a3).toNat = 1 then wq_or x (xpa d (xlot d ((n : Nat) : Int)) (a3).toNat) else x) 0 (v2298).toNat) (xpa d (xlot d (((v2298).toNat : Nat) : Int)) (a3).toNat) else wfd (xwf e d) (fun n x => if hb (xsb d (xlot d ((n : Nat) : Int)) (a2).toNat) (a3).toNat = 1 then wq_or x (xpa d (xlot d ((n : Nat) : Int)) (a3).toNat) else x) 0 (v2298).toNat)
                      rw [← ‹v2299 = wfd (xwf e d) (fun n x => if hb (xsb d (xlot d ((n : Nat) : Int)) (a2).toNat) (a3).toNat = 1 then wq_or x (xpa d (xlot d ((n : Nat) : Int)) (a3).toNat) else x) 0 (v2298).toNat›, Int.toNat_of_nonneg (by omega : 0 ≤ v2298)]
                      rw [if_pos (by omega), e2379]
                      exact congrArg _ (by assumption)
                    refine wp_of e115 c115_83 (rw_iinc (pc' := 86) (z := v2298) (L' := [(5, vI (v2298 + 1)), (4, vI v2378), (6, vI z2335), (0, .ref r0), (1, .ref r1), (2, vI a2), (3, vI a3)]) rfl rfl rfl rfl ?_)
                    refine wp_of e115 c115_86 (rw_goto (p1 := 6) (by decide) ?_)
                    exact wp_lc (ks := [5, 4, 6, 0, 1, 2, 3]) (wl_c rfl (wl_c rfl (wl_c rfl (wl_c rfl (wl_c rfl (wl_c rfl wl_n)))))) rfl (by decide) (ih2297 _ (by omega) (v2298 + 1) v2378 ⟨by omega, by omega⟩ ⟨b2380.1, b2380.2⟩ (by omega) (_q) rfl)
                · show wp _ _ 115 68 [(6, vI z2335), (5, vI v2298), (4, vI v2299), (0, .ref r0), (1, .ref r1), (2, vI a2), (3, vI a3)] [vI z2359] _ H _
                  refine wp_of e115 c115_68 (rw_if_eq (p1 := 83) (p2 := 71) (by decide) rfl ⟨Int.le_trans (by decide) b2360.1, Int.le_trans b2360.2 (by decide)⟩ (fun c2381 => ?_) (fun c2381 => ?_))
                  · have _q : v2299 = wfd (xwf e d) (fun n x => if hb (xsb d (xlot d ((n : Nat) : Int)) (a2).toNat) (a3).toNat = 1 then wq_or x (xpa d (xlot d ((n : Nat) : Int)) (a3).toNat) else x) 0 (v2298 + 1).toNat := by
                      rw [show (v2298 + 1).toNat = (v2298).toNat + 1 by omega]
                      rw [wfd_y (by omega)]
                      show v2299 = (if hb (xsb d (xlot d (((v2298).toNat : Nat) : Int)) (a2).toNat) (a3).toNat = 1 then wq_or (wfd (xwf e d) (fun n x => if hb (xsb d (xlot d ((n : Nat) : Int)) (a2).toNat) (a3).toNat = 1 then wq_or x (xpa d (xlot d ((n : Nat) : Int)) (a3).toNat) else x) 0 (v2298).toNat) (xpa d (xlot d (((v2298).toNat : Nat) : Int)) (a3).toNat) else wfd (xwf e d) (fun n x => if hb (xsb d (xlot d ((n : Nat) : Int)) (a2).toNat) (a3).toNat = 1 then wq_or x (xpa d (xlot d ((n : Nat) : Int)) (a3).toNat) else x) 0 (v2298).toNat)
                      rw [← ‹v2299 = wfd (xwf e d) (fun n x => if hb (xsb d (xlot d ((n : Nat) : Int)) (a2).toNat) (a3).toNat = 1 then wq_or x (xpa d (xlot d ((n : Nat) : Int)) (a3).toNat) else x) 0 (v2298).toNat›, Int.toNat_of_nonneg (by omega : 0 ≤ v2298)]
                      rw [if_neg (by omega)]
                    refine wp_of e115 c115_83 (rw_iinc (pc' := 86) (z := v2298) (L' := [(5, vI (v2298 + 1)), (6, vI z2335), (4, vI v2299), (0, .ref r0), (1, .ref r1), (2, vI a2), (3, vI a3)]) rfl rfl rfl rfl ?_)
                    refine wp_of e115 c115_86 (rw_goto (p1 := 6) (by decide) ?_)
                    exact wp_lc (ks := [5, 6, 4, 0, 1, 2, 3]) (wl_c rfl (wl_c rfl (wl_c rfl (wl_c rfl (wl_c rfl (wl_c rfl wl_n)))))) rfl (by decide) (ih2297 _ (by omega) (v2298 + 1) v2299 ⟨by omega, by omega⟩ ⟨b2303.1, b2303.2⟩ (by omega) (_q) rfl)
                  · exfalso
                    omega
          · show wp _ _ 115 31 [(5, vI v2298), (4, vI v2299), (0, .ref r0), (1, .ref r1), (2, vI a2), (3, vI a3)] [vI z2319] _ H _
            refine wp_of e115 c115_31 (rw_if_eq (p1 := 44) (p2 := 34) (by decide) rfl ⟨Int.le_trans (by decide) b2320.1, Int.le_trans b2320.2 (by decide)⟩ (fun c2382 => ?_) (fun c2382 => ?_))
            · refine wp_of e115 c115_44 (rw_iconst (pc' := 45) rfl ?_)
              refine wp_of e115 c115_45 (rw_istore (pc' := 47) (z := -1) (L' := [(6, vI (-1)), (5, vI v2298), (4, vI v2299), (0, .ref r0), (1, .ref r1), (2, vI a2), (3, vI a3)]) rfl rfl rfl ?_)
              refine wp_of e115 c115_47 (rw_iload (pc' := 49) (z := -1) rfl rfl ?_)
              refine wp_of e115 c115_49 (rw_if_lt (p1 := 83) (p2 := 52) (by decide) rfl ⟨by decide, by decide⟩ (fun c2383 => ?_) (fun c2383 => ?_))
              · have _q : v2299 = wfd (xwf e d) (fun n x => if hb (xsb d (xlot d ((n : Nat) : Int)) (a2).toNat) (a3).toNat = 1 then wq_or x (xpa d (xlot d ((n : Nat) : Int)) (a3).toNat) else x) 0 (v2298 + 1).toNat := by
                  rw [show (v2298 + 1).toNat = (v2298).toNat + 1 by omega]
                  rw [wfd_n (by omega)]
                  assumption
                refine wp_of e115 c115_83 (rw_iinc (pc' := 86) (z := v2298) (L' := [(5, vI (v2298 + 1)), (6, vI (-1)), (4, vI v2299), (0, .ref r0), (1, .ref r1), (2, vI a2), (3, vI a3)]) rfl rfl rfl rfl ?_)
                refine wp_of e115 c115_86 (rw_goto (p1 := 6) (by decide) ?_)
                exact wp_lc (ks := [5, 6, 4, 0, 1, 2, 3]) (wl_c rfl (wl_c rfl (wl_c rfl (wl_c rfl (wl_c rfl (wl_c rfl wl_n)))))) rfl (by decide) (ih2297 _ (by omega) (v2298 + 1) v2299 ⟨by omega, by omega⟩ ⟨b2303.1, b2303.2⟩ (by omega) (_q) rfl)
              · exfalso
                omega
            · exfalso
              omega
  exact wp_lc (ks := [5, 4, 0, 1, 2, 3]) (wl_c rfl (wl_c rfl (wl_c rfl (wl_c rfl (wl_c rfl (wl_c rfl wl_n)))))) rfl (by decide) (lp2295 _ 0 0 ⟨by decide, by decide⟩ ⟨by decide, by decide⟩ (by omega) (rfl) rfl)
/-! StrikeAwake.barOfWorlds(Z)I  -/
abbrev uq_83 (r0 : Nat) (a1 : Int) (cu : Nat) (wa : Nat) (ce : Nat) (e : xD) (d : xD) (n : Int) (T : wq_T) (H : wq_H) : Option Value → wq_T → wq_H → Prop := fun r T' H' => T = T' ∧ WT T H' ∧ wfr [(12, 5), (12, 6), (12, 7), (12, 8), (12, 9), (6, 5), (8, 999), (10, 999), (15, 999), (9, 999), (18, 999), (19, 999), (7, 999), (11, 999), (17, 999), (13, 999)] T H H' ∧ ∃ z : Int, some (vI z) = r ∧ (0 ≤ z ∧ z ≤ 6) ∧ (((z = 0) ∧ (a1 = 1) ∧ (n ≤ 20000) ∧ CEN T H' ce e d ∧ CEB T H' ce e d (xlots d).toNat ∧ CEX T H' ce e d (xlots d).toNat) ∨ ((1 ≤ z ∧ z ≤ 6) ∧ (a1 = 0 ∨ 20000 < n) ∧ CEN T H' ce e d))
set_option maxHeartbeats 4000000 in
theorem u_83 {kt : Nat → Option mc_E} {T : wq_T} {H : wq_H} {r0 : Nat} {a1 : Int} {cu : Nat} {wa : Nat} {ce : Nat} {e : xD} {d : xD} {n : Int} (hW : WT T H) (g0 : T.2.2.2 r0 = some 1) (i1 : 0 ≤ a1 ∧ a1 ≤ 1) (qcu : H r0 6 = (cu : Int)) (gcu : T.2.2.2 cu = some 27) (qwa : H r0 2 = (wa : Int)) (gwa : T.2.2.2 wa = some 6) (qce : H r0 3 = (ce : Int)) (gce : T.2.2.2 ce = some 12) (p0 : ∀ i, i ≠ 13 → e i = d i) (p1 : XW d) (p2 : e 0 3 = d 0 3) (p3 : e 0 0 = d 0 0) (p4 : a1 = 0 ∨ n = xlots d) (hCU_cu : CU T H cu e d n) (hCEN_ce : CEN T H ce e d) (hHDR_ce : HDR T H ce ) : wpc kt 5 83 [.ref r0, vI a1] T H (uq_83 r0 a1 cu wa ce e d n T H) := by
  refine wp_enter e83 (Nat.le_of_ble_eq_true rfl) rfl ?_
  have f0 : wfr [(12, 5), (12, 6), (12, 7), (12, 8), (12, 9), (6, 5), (8, 999), (10, 999), (15, 999), (9, 999), (18, 999), (19, 999), (7, 999), (11, 999), (17, 999), (13, 999)] T H H := wfr.rf
  show wp _ _ 83 0 [(0, .ref r0), (1, vI a1)] [] _ H _
  have u1032 := CU_k hCU_cu
  refine wp_of e83 c83_0 (rw_aload_n (pc' := 1) (v := .ref r0) rfl rfl rfl ?_)
  refine wp_of e83 c83_1 (rw_iload_n (pc' := 2) (z := a1) rfl rfl ?_)
  refine wp_of e83 c83_2 (xc_V (pc' := 5) (r := r0) (as := [vI a1]) (st := []) (lm_0_245) rfl rfl (Nat.le_of_ble_eq_true rfl) hW g0 sh_1 (by decide) rfl (by decide) (u_84 (e := e) (d := d) (n := n) hW g0 ⟨i1.1, i1.2⟩ qcu gcu hCU_cu) (fun R1033 T1034 H1035 p1036 => ?_))
  obtain ⟨e1037, e1039, z1040, e1038, b1041, p1042⟩ := p1036
  subst e1037
  subst e1038
  subst e1039
  rcases p1042 with ⟨a1043, a1044, a1045⟩ | ⟨a1046, a1047⟩
  · show wp _ _ 83 5 [(0, .ref r0), (1, vI a1)] [vI z1040] _ H _
    refine wp_of e83 c83_5 (rw_istore_n (pc' := 6) (z := z1040) (L' := [(2, vI z1040), (0, .ref r0), (1, vI a1)]) rfl rfl rfl ?_)
    refine wp_of e83 c83_6 (rw_iload_n (pc' := 7) (z := z1040) rfl rfl ?_)
    refine wp_of e83 c83_7 (rw_if_ne (p1 := 25) (p2 := 10) (by decide) rfl ⟨Int.le_trans (by decide) b1041.1, Int.le_trans b1041.2 (by decide)⟩ (fun c1048 => ?_) (fun c1048 => ?_))
    · exfalso
      omega
    · refine wp_of e83 c83_10 (rw_aload_n (pc' := 11) (v := .ref r0) rfl rfl rfl ?_)
      refine wp_of e83 c83_11 (xg_K (pc' := 14) lf_0_30 hW g0 sh_1 (by decide) (by decide) rfl qce rfl ?_)
      refine wp_of e83 c83_14 (rw_aload_n (pc' := 15) (v := .ref r0) rfl rfl rfl ?_)
      refine wp_of e83 c83_15 (xg_K (pc' := 18) lf_0_51 hW g0 sh_1 (by decide) (by decide) rfl qcu rfl ?_)
      refine wp_of e83 c83_18 (rw_aload_n (pc' := 19) (v := .ref r0) rfl rfl rfl ?_)
      refine wp_of e83 c83_19 (xg_K (pc' := 22) lf_0_23 hW g0 sh_1 (by decide) (by decide) rfl qwa rfl ?_)
      refine wp_of e83 c83_22 (xc_V (pc' := 25) (r := ce) (as := [.ref cu, .ref wa]) (st := []) (lm_0_254) rfl rfl (Nat.le_of_ble_eq_true rfl) hW gce sh_12 (by decide) rfl (by decide) (u_85 (e := e) (d := d) (n := n) hW gce gcu gwa (by assumption) (by assumption) (by omega) (by omega) (by omega) (by omega) hCU_cu hCEN_ce hHDR_ce) (fun R1049 T1050 H1051 p1052 => ?_))
      obtain ⟨e1053, w1055, f1056, e1054, p1057⟩ := p1052
      subst e1053
      subst e1054
      obtain ⟨a1058, a1059, a1060, a1061⟩ := p1057
      have f1062 := f0.tr f1056 rfl
      show wp _ _ 83 25 [(2, vI z1040), (0, .ref r0), (1, vI a1)] [] _ H1051 _
      refine wp_of e83 c83_25 (rw_iload_n (pc' := 26) (z := z1040) rfl rfl ?_)
      exact wp_ireturn e83 c83_26 rfl ⟨rfl, w1055, f1062, z1040, rfl, ⟨b1041.1, b1041.2⟩, (Or.inl ⟨by omega, by omega, by omega, a1061, a1059, a1060⟩)⟩
  · show wp _ _ 83 5 [(0, .ref r0), (1, vI a1)] [vI z1040] _ H _
    refine wp_of e83 c83_5 (rw_istore_n (pc' := 6) (z := z1040) (L' := [(2, vI z1040), (0, .ref r0), (1, vI a1)]) rfl rfl rfl ?_)
    refine wp_of e83 c83_6 (rw_iload_n (pc' := 7) (z := z1040) rfl rfl ?_)
    refine wp_of e83 c83_7 (rw_if_ne (p1 := 25) (p2 := 10) (by decide) rfl ⟨Int.le_trans (by decide) b1041.1, Int.le_trans b1041.2 (by decide)⟩ (fun c1063 => ?_) (fun c1063 => ?_))
    · refine wp_of e83 c83_25 (rw_iload_n (pc' := 26) (z := z1040) rfl rfl ?_)
      exact wp_ireturn e83 c83_26 rfl ⟨rfl, hW, f0, z1040, rfl, ⟨b1041.1, b1041.2⟩, (Or.inr ⟨by omega, by omega, hCEN_ce⟩)⟩
    · exfalso
      omega
/-! StrikeAwake.barOfSome(Z)I  -/
abbrev uq_102 (r0 : Nat) (a1 : Int) (cu : Nat) (wa : Nat) (ce : Nat) (e : xD) (d : xD) (n : Int) (T : wq_T) (H : wq_H) : Option Value → wq_T → wq_H → Prop := fun r T' H' => T = T' ∧ WT T H' ∧ wfr [(12, 5), (12, 6), (12, 7), (12, 8), (12, 9), (6, 5), (8, 999), (10, 999), (15, 999), (9, 999), (18, 999), (19, 999), (7, 999), (11, 999), (17, 999), (13, 999)] T H H' ∧ ∃ z : Int, some (vI z) = r ∧ (0 ≤ z ∧ z ≤ 6) ∧ (((z = 0) ∧ (a1 = 1) ∧ (n ≤ 20000) ∧ (0 < xcn (xwf e d) (xlots d).toNat) ∧ CEN T H' ce e d ∧ CEB T H' ce e d (xlots d).toNat ∧ CEX T H' ce e d (xlots d).toNat) ∨ ((1 ≤ z ∧ z ≤ 6) ∧ (a1 = 0 ∨ 20000 < n ∨ xcn (xwf e d) (xlots d).toNat ≤ 0) ∧ CEN T H' ce e d))
set_option maxHeartbeats 4000000 in
theorem u_102 {kt : Nat → Option mc_E} {T : wq_T} {H : wq_H} {r0 : Nat} {a1 : Int} {cu : Nat} {wa : Nat} {ce : Nat} {e : xD} {d : xD} {n : Int} (hW : WT T H) (g0 : T.2.2.2 r0 = some 1) (i1 : 0 ≤ a1 ∧ a1 ≤ 1) (qcu : H r0 6 = (cu : Int)) (gcu : T.2.2.2 cu = some 27) (qwa : H r0 2 = (wa : Int)) (gwa : T.2.2.2 wa = some 6) (qce : H r0 3 = (ce : Int)) (gce : T.2.2.2 ce = some 12) (p0 : ∀ i, i ≠ 13 → e i = d i) (p1 : XW d) (p2 : e 0 3 = d 0 3) (p3 : e 0 0 = d 0 0) (p4 : a1 = 0 ∨ n = xlots d) (hCU_cu : CU T H cu e d n) (hCEN_ce : CEN T H ce e d) (hHDR_ce : HDR T H ce ) : wpc kt 6 102 [.ref r0, vI a1] T H (uq_102 r0 a1 cu wa ce e d n T H) := by
  refine wp_enter e102 (Nat.le_of_ble_eq_true rfl) rfl ?_
  have f0 : wfr [(12, 5), (12, 6), (12, 7), (12, 8), (12, 9), (6, 5), (8, 999), (10, 999), (15, 999), (9, 999), (18, 999), (19, 999), (7, 999), (11, 999), (17, 999), (13, 999)] T H H := wfr.rf
  show wp _ _ 102 0 [(0, .ref r0), (1, vI a1)] [] _ H _
  have u1030 := CU_k hCU_cu
  refine wp_of e102 c102_0 (rw_aload_n (pc' := 1) (v := .ref r0) rfl rfl rfl ?_)
  refine wp_of e102 c102_1 (rw_iload_n (pc' := 2) (z := a1) rfl rfl ?_)
  refine wp_of e102 c102_2 (xc_V (pc' := 5) (r := r0) (as := [vI a1]) (st := []) (lm_0_174) rfl rfl (Nat.le_of_ble_eq_true rfl) hW g0 sh_1 (by decide) rfl (by decide) (u_83 (e := e) (d := d) (n := n) hW g0 ⟨i1.1, i1.2⟩ qcu gcu qwa gwa qce gce (by assumption) (by assumption) (by omega) (by omega) (by omega) hCU_cu hCEN_ce hHDR_ce) (fun R1031 T1032 H1033 p1034 => ?_))
  obtain ⟨e1035, w1037, f1038, z1039, e1036, b1040, p1041⟩ := p1034
  subst e1035
  subst e1036
  rcases p1041 with ⟨a1042, a1043, a1044, a1045, a1046, a1047⟩ | ⟨a1048, a1049, a1050⟩
  · have f1051 := f0.tr f1038 rfl
    show wp _ _ 102 5 [(0, .ref r0), (1, vI a1)] [vI z1039] _ H1033 _
    refine wp_of e102 c102_5 (rw_istore_n (pc' := 6) (z := z1039) (L' := [(2, vI z1039), (0, .ref r0), (1, vI a1)]) rfl rfl rfl ?_)
    refine wp_of e102 c102_6 (rw_iload_n (pc' := 7) (z := z1039) rfl rfl ?_)
    refine wp_of e102 c102_7 (rw_if_ne (p1 := 25) (p2 := 10) (by decide) rfl ⟨Int.le_trans (by decide) b1040.1, Int.le_trans b1040.2 (by decide)⟩ (fun c1052 => ?_) (fun c1052 => ?_))
    · exfalso
      omega
    · have _cbb := a1046
      have _cb := _cbb.1
      have _cb6 := _cbb.2.1
      have _cb8 := _cbb.2.2.1
      have _cb7 := _cbb.2.2.2.1
      have h1053 : CEM T H1033 ce (xwf e d) (xlots d).toNat := _cbb.2.2.2.2
      have _nb := xcn_b (f := xwf e d) (xlots d).toNat
      refine wp_of e102 c102_10 (rw_aload_n (pc' := 11) (v := .ref r0) rfl rfl rfl ?_)
      have k1054 : H1033 r0 3 = H r0 3 := (f1038 r0 3 _ g0 rfl)
      have q1055 : H1033 r0 3 = (ce : Int) := k1054.trans qce
      refine wp_of e102 c102_11 (xg_K (pc' := 14) lf_0_30 w1037 g0 sh_1 (by decide) (by decide) rfl q1055 rfl ?_)
      refine wp_of e102 c102_14 (xg_I (pc' := 17) lf_0_177 w1037 gce sh_12 (by decide) (by decide) ty_12_5 rfl rfl (fun b1056 b1057 => ?_))
      refine wp_of e102 c102_17 (rw_if_ne (p1 := 25) (p2 := 20) (by decide) rfl ⟨b1056, b1057⟩ (fun c1058 => ?_) (fun c1058 => ?_))
      · refine wp_of e102 c102_25 (rw_iload_n (pc' := 26) (z := z1039) rfl rfl ?_)
        exact wp_ireturn e102 c102_26 rfl ⟨rfl, w1037, f1051, z1039, rfl, ⟨b1040.1, b1040.2⟩, (Or.inl ⟨by omega, by omega, by omega, by omega, a1045, a1046, a1047⟩)⟩
      · refine wp_of e102 c102_20 (rw_bipush (pc' := 22) (z := 6) rfl (by decide) ?_)
        refine wp_of e102 c102_22 (rw_goto (p1 := 26) (by decide) ?_)
        exact wp_ireturn e102 c102_26 rfl ⟨rfl, w1037, f1051, 6, rfl, ⟨by decide, by decide⟩, (Or.inr ⟨by omega, by omega, a1045⟩)⟩
  · have f1059 := f0.tr f1038 rfl
    show wp _ _ 102 5 [(0, .ref r0), (1, vI a1)] [vI z1039] _ H1033 _
    refine wp_of e102 c102_5 (rw_istore_n (pc' := 6) (z := z1039) (L' := [(2, vI z1039), (0, .ref r0), (1, vI a1)]) rfl rfl rfl ?_)
    refine wp_of e102 c102_6 (rw_iload_n (pc' := 7) (z := z1039) rfl rfl ?_)
    refine wp_of e102 c102_7 (rw_if_ne (p1 := 25) (p2 := 10) (by decide) rfl ⟨Int.le_trans (by decide) b1040.1, Int.le_trans b1040.2 (by decide)⟩ (fun c1060 => ?_) (fun c1060 => ?_))
    · refine wp_of e102 c102_25 (rw_iload_n (pc' := 26) (z := z1039) rfl rfl ?_)
      exact wp_ireturn e102 c102_26 rfl ⟨rfl, w1037, f1059, z1039, rfl, ⟨b1040.1, b1040.2⟩, (Or.inr ⟨by omega, by omega, a1050⟩)⟩
    · exfalso
      omega
/-! StrikeAwake.barOfAsking(Z)I  -/
abbrev uq_121 (r0 : Nat) (a1 : Int) (cu : Nat) (wa : Nat) (ce : Nat) (e : xD) (d : xD) (n : Int) (T : wq_T) (H : wq_H) : Option Value → wq_T → wq_H → Prop := fun r T' H' => T = T' ∧ WT T H' ∧ wfr [(12, 5), (12, 6), (12, 7), (12, 8), (12, 9), (6, 5), (8, 999), (10, 999), (15, 999), (9, 999), (18, 999), (19, 999), (7, 999), (11, 999), (17, 999), (13, 999)] T H H' ∧ ∃ z : Int, some (vI z) = r ∧ (0 ≤ z ∧ z ≤ 6) ∧ (((z = 0) ∧ (a1 = 1) ∧ CEN T H' ce e d) ∨ ((1 ≤ z ∧ z ≤ 6) ∧ CEN T H' ce e d))
set_option maxHeartbeats 4000000 in
theorem u_121 {kt : Nat → Option mc_E} {T : wq_T} {H : wq_H} {r0 : Nat} {a1 : Int} {cu : Nat} {wa : Nat} {ce : Nat} {e : xD} {d : xD} {n : Int} (hW : WT T H) (g0 : T.2.2.2 r0 = some 1) (i1 : 0 ≤ a1 ∧ a1 ≤ 1) (qcu : H r0 6 = (cu : Int)) (gcu : T.2.2.2 cu = some 27) (qwa : H r0 2 = (wa : Int)) (gwa : T.2.2.2 wa = some 6) (qce : H r0 3 = (ce : Int)) (gce : T.2.2.2 ce = some 12) (p0 : ∀ i, i ≠ 13 → e i = d i) (p1 : XW d) (p2 : e 0 3 = d 0 3) (p3 : e 0 0 = d 0 0) (p4 : a1 = 0 ∨ n = xlots d) (hCU_cu : CU T H cu e d n) (hCEN_ce : CEN T H ce e d) (hHDR_ce : HDR T H ce ) : wpc kt 6 121 [.ref r0, vI a1] T H (uq_121 r0 a1 cu wa ce e d n T H) := by
  refine wp_enter e121 (Nat.le_of_ble_eq_true rfl) rfl ?_
  have f0 : wfr [(12, 5), (12, 6), (12, 7), (12, 8), (12, 9), (6, 5), (8, 999), (10, 999), (15, 999), (9, 999), (18, 999), (19, 999), (7, 999), (11, 999), (17, 999), (13, 999)] T H H := wfr.rf
  show wp _ _ 121 0 [(0, .ref r0), (1, vI a1)] [] _ H _
  have u1033 := CU_k hCU_cu
  refine wp_of e121 c121_0 (rw_aload_n (pc' := 1) (v := .ref r0) rfl rfl rfl ?_)
  refine wp_of e121 c121_1 (rw_iload_n (pc' := 2) (z := a1) rfl rfl ?_)
  refine wp_of e121 c121_2 (xc_V (pc' := 5) (r := r0) (as := [vI a1]) (st := []) (lm_0_174) rfl rfl (Nat.le_of_ble_eq_true rfl) hW g0 sh_1 (by decide) rfl (by decide) (u_83 (e := e) (d := d) (n := n) hW g0 ⟨i1.1, i1.2⟩ qcu gcu qwa gwa qce gce (by assumption) (by assumption) (by omega) (by omega) (by omega) hCU_cu hCEN_ce hHDR_ce) (fun R1034 T1035 H1036 p1037 => ?_))
  obtain ⟨e1038, w1040, f1041, z1042, e1039, b1043, p1044⟩ := p1037
  subst e1038
  subst e1039
  rcases p1044 with ⟨a1045, a1046, a1047, a1048, a1049, a1050⟩ | ⟨a1051, a1052, a1053⟩
  · have f1054 := f0.tr f1041 rfl
    show wp _ _ 121 5 [(0, .ref r0), (1, vI a1)] [vI z1042] _ H1036 _
    refine wp_of e121 c121_5 (rw_istore_n (pc' := 6) (z := z1042) (L' := [(2, vI z1042), (0, .ref r0), (1, vI a1)]) rfl rfl rfl ?_)
    refine wp_of e121 c121_6 (rw_iload_n (pc' := 7) (z := z1042) rfl rfl ?_)
    refine wp_of e121 c121_7 (rw_if_eq (p1 := 12) (p2 := 10) (by decide) rfl ⟨Int.le_trans (by decide) b1043.1, Int.le_trans b1043.2 (by decide)⟩ (fun c1055 => ?_) (fun c1055 => ?_))
    · refine wp_of e121 c121_12 (rw_aload_n (pc' := 13) (v := .ref r0) rfl rfl rfl ?_)
      have k1056 : H1036 r0 3 = H r0 3 := (f1041 r0 3 _ g0 rfl)
      have q1057 : H1036 r0 3 = (ce : Int) := k1056.trans qce
      refine wp_of e121 c121_13 (xg_K (pc' := 16) lf_0_30 w1040 g0 sh_1 (by decide) (by decide) rfl q1057 rfl ?_)
      refine wp_of e121 c121_16 (xg_I (pc' := 19) lf_0_177 w1040 gce sh_12 (by decide) (by decide) ty_12_5 rfl rfl (fun b1058 b1059 => ?_))
      refine wp_of e121 c121_19 (rw_sipush (pc' := 22) (z := 400) rfl (by decide) ?_)
      refine wp_of e121 c121_22 (rw_icmp_le (p1 := 27) (p2 := 25) (by decide) rfl ⟨b1058, b1059⟩ ⟨by decide, by decide⟩ (fun c1060 => ?_) (fun c1060 => ?_))
      · refine wp_of e121 c121_27 (rw_aload_n (pc' := 28) (v := .ref r0) rfl rfl rfl ?_)
        refine wp_of e121 c121_28 (xg_K (pc' := 31) lf_0_30 w1040 g0 sh_1 (by decide) (by decide) rfl q1057 rfl ?_)
        refine wp_of e121 c121_31 (xg_I (pc' := 34) lf_0_177 w1040 gce sh_12 (by decide) (by decide) ty_12_5 rfl rfl (fun b1061 b1062 => ?_))
        refine wp_of e121 c121_34 (rw_if_ne (p1 := 42) (p2 := 37) (by decide) rfl ⟨b1061, b1062⟩ (fun c1063 => ?_) (fun c1063 => ?_))
        · refine wp_of e121 c121_42 (rw_iconst (pc' := 43) rfl ?_)
          exact wp_ireturn e121 c121_43 rfl ⟨rfl, w1040, f1054, 0, rfl, ⟨by decide, by decide⟩, (Or.inl ⟨by omega, by omega, a1048⟩)⟩
        · refine wp_of e121 c121_37 (rw_bipush (pc' := 39) (z := 6) rfl (by decide) ?_)
          refine wp_of e121 c121_39 (rw_goto (p1 := 43) (by decide) ?_)
          exact wp_ireturn e121 c121_43 rfl ⟨rfl, w1040, f1054, 6, rfl, ⟨by decide, by decide⟩, (Or.inr ⟨by omega, a1048⟩)⟩
      · refine wp_of e121 c121_25 (rw_iconst (pc' := 26) rfl ?_)
        exact wp_ireturn e121 c121_26 rfl ⟨rfl, w1040, f1054, 3, rfl, ⟨by decide, by decide⟩, (Or.inr ⟨by omega, a1048⟩)⟩
    · exfalso
      omega
  · have f1064 := f0.tr f1041 rfl
    show wp _ _ 121 5 [(0, .ref r0), (1, vI a1)] [vI z1042] _ H1036 _
    refine wp_of e121 c121_5 (rw_istore_n (pc' := 6) (z := z1042) (L' := [(2, vI z1042), (0, .ref r0), (1, vI a1)]) rfl rfl rfl ?_)
    refine wp_of e121 c121_6 (rw_iload_n (pc' := 7) (z := z1042) rfl rfl ?_)
    refine wp_of e121 c121_7 (rw_if_eq (p1 := 12) (p2 := 10) (by decide) rfl ⟨Int.le_trans (by decide) b1043.1, Int.le_trans b1043.2 (by decide)⟩ (fun c1065 => ?_) (fun c1065 => ?_))
    · exfalso
      omega
    · refine wp_of e121 c121_10 (rw_iload_n (pc' := 11) (z := z1042) rfl rfl ?_)
      exact wp_ireturn e121 c121_11 rfl ⟨rfl, w1040, f1064, z1042, rfl, ⟨b1043.1, b1043.2⟩, (Or.inr ⟨by omega, a1053⟩)⟩
/-! StrikeAwake.worlds()I  -/
abbrev uq_82 (r0 : Nat) (cu : Nat) (wa : Nat) (ce : Nat) (e : xD) (d : xD) (n : Int) (T : wq_T) (H : wq_H) : Option Value → wq_T → wq_H → Prop := fun r T' H' => T = T' ∧ WT T H' ∧ wfr [(12, 5), (12, 6), (12, 7), (12, 8), (12, 9), (1, 10), (6, 5), (8, 999), (10, 999), (15, 999), (9, 999), (18, 999), (19, 999), (7, 999), (11, 999), (17, 999), (13, 999)] T H H' ∧ ∃ z : Int, some (vI z) = r ∧ ((-2147483648) ≤ z ∧ z ≤ 2147483647) ∧ (((z = -1) ∧ (H r0 8 = 0 ∨ 20000 < n) ∧ CEN T H' ce e d) ∨ ((H r0 8 ≠ 0 ∧ n ≤ 20000) ∧ (z = xcn (xwf e d) (xlots d).toNat) ∧ CEN T H' ce e d))
set_option maxHeartbeats 4000000 in
theorem u_82 {kt : Nat → Option mc_E} {T : wq_T} {H : wq_H} {r0 : Nat} {cu : Nat} {wa : Nat} {ce : Nat} {e : xD} {d : xD} {n : Int} (hW : WT T H) (g0 : T.2.2.2 r0 = some 1) (qcu : H r0 6 = (cu : Int)) (gcu : T.2.2.2 cu = some 27) (qwa : H r0 2 = (wa : Int)) (gwa : T.2.2.2 wa = some 6) (qce : H r0 3 = (ce : Int)) (gce : T.2.2.2 ce = some 12) (p0 : ∀ i, i ≠ 13 → e i = d i) (p1 : XW d) (p2 : e 0 3 = d 0 3) (p3 : e 0 0 = d 0 0) (p4 : H r0 8 = 0 ∨ n = xlots d) (p5 : H r0 8 ≠ 0 ∨ (d 0 3 = 0 ∧ d 0 0 = 0)) (hCU_cu : CU T H cu e d n) (hCEN_ce : CEN T H ce e d) (hHDR_ce : HDR T H ce ) : wpc kt 6 82 [.ref r0] T H (uq_82 r0 cu wa ce e d n T H) := by
  refine wp_enter e82 (Nat.le_of_ble_eq_true rfl) rfl ?_
  have f0 : wfr [(12, 5), (12, 6), (12, 7), (12, 8), (12, 9), (1, 10), (6, 5), (8, 999), (10, 999), (15, 999), (9, 999), (18, 999), (19, 999), (7, 999), (11, 999), (17, 999), (13, 999)] T H H := wfr.rf
  show wp _ _ 82 0 [(0, .ref r0)] [] _ H _
  have u1059 := CU_k hCU_cu
  have b1060 : 0 ≤ H r0 8 ∧ H r0 8 ≤ 1 := hW.box g0 (n := 13) rfl (by decide) rfl
  have _c7 : d 0 0 ≤ 24 := p1.2.1.2.1
  refine wp_of e82 c82_0 (rw_aload_n (pc' := 1) (v := .ref r0) rfl rfl rfl ?_)
  refine wp_of e82 c82_1 (rw_aload_n (pc' := 2) (v := .ref r0) rfl rfl rfl ?_)
  refine wp_of e82 c82_2 (xg_I (pc' := 5) lf_0_58 hW g0 sh_1 (by decide) (by decide) ty_1_8 rfl rfl (fun b1061 b1062 => ?_))
  refine wp_of e82 c82_5 (xc_V (pc' := 8) (r := r0) (as := [vI (H r0 8)]) (st := []) (lm_0_174) rfl rfl (Nat.le_of_ble_eq_true rfl) hW g0 sh_1 (by decide) rfl (by decide) (u_83 (e := e) (d := d) (n := n) hW g0 ⟨b1061, b1062⟩ qcu gcu qwa gwa qce gce (by assumption) (by assumption) (by omega) (by omega) (by omega) hCU_cu hCEN_ce hHDR_ce) (fun R1063 T1064 H1065 p1066 => ?_))
  obtain ⟨e1067, w1069, f1070, z1071, e1068, b1072, p1073⟩ := p1066
  subst e1067
  subst e1068
  rcases p1073 with ⟨a1074, a1075, a1076, a1077, a1078, a1079⟩ | ⟨a1080, a1081, a1082⟩
  · have f1083 := f0.tr f1070 rfl
    show wp _ _ 82 8 [(0, .ref r0)] [vI z1071] _ H1065 _
    refine wp_of e82 c82_8 (rw_istore_n (pc' := 9) (z := z1071) (L' := [(1, vI z1071), (0, .ref r0)]) rfl rfl rfl ?_)
    refine wp_of e82 c82_9 (rw_iload_n (pc' := 10) (z := z1071) rfl rfl ?_)
    refine wp_of e82 c82_10 (rw_if_eq (p1 := 19) (p2 := 13) (by decide) rfl ⟨Int.le_trans (by decide) b1072.1, Int.le_trans b1072.2 (by decide)⟩ (fun c1084 => ?_) (fun c1084 => ?_))
    · have _cb := (a1078).1
      refine wp_of e82 c82_19 (rw_aload_n (pc' := 20) (v := .ref r0) rfl rfl rfl ?_)
      refine wp_of e82 c82_20 (rw_aload_n (pc' := 21) (v := .ref r0) rfl rfl rfl ?_)
      have k1085 : H1065 r0 3 = H r0 3 := (f1070 r0 3 _ g0 rfl)
      have q1086 : H1065 r0 3 = (ce : Int) := k1085.trans qce
      refine wp_of e82 c82_21 (xg_K (pc' := 24) lf_0_30 w1069 g0 sh_1 (by decide) (by decide) rfl q1086 rfl ?_)
      refine wp_of e82 c82_24 (xg_I (pc' := 27) lf_0_177 w1069 gce sh_12 (by decide) (by decide) ty_12_5 rfl rfl (fun b1087 b1088 => ?_))
      refine wp_of e82 c82_27 (xc_V (pc' := 30) (r := r0) (as := [vI (H1065 ce 5)]) (st := []) (lm_0_99) rfl rfl (Nat.le_of_ble_eq_true rfl) w1069 g0 sh_1 (by decide) rfl (by decide) (u_51  w1069 g0 ⟨b1087, b1088⟩) (fun R1089 T1090 H1091 p1092 => ?_))
      obtain ⟨e1093, w1095, f1096, z1097, e1094, b1098, p1099⟩ := p1092
      subst e1093
      subst e1094
      obtain ⟨a1100, a1101⟩ := p1099
      have f1102 := f1083.tr f1096 rfl
      show wp _ _ 82 30 [(1, vI z1071), (0, .ref r0)] [vI z1097] _ H1091 _
      have h1103 : CEN T H1091 ce e d := (CEN_fr w1069 gce f1096 rfl a1077)
      exact wp_ireturn e82 c82_30 rfl ⟨rfl, w1095, f1102, z1097, rfl, ⟨b1098.1, b1098.2⟩, (Or.inr ⟨by omega, by omega, h1103⟩)⟩
    · exfalso
      omega
  · have f1104 := f0.tr f1070 rfl
    show wp _ _ 82 8 [(0, .ref r0)] [vI z1071] _ H1065 _
    refine wp_of e82 c82_8 (rw_istore_n (pc' := 9) (z := z1071) (L' := [(1, vI z1071), (0, .ref r0)]) rfl rfl rfl ?_)
    refine wp_of e82 c82_9 (rw_iload_n (pc' := 10) (z := z1071) rfl rfl ?_)
    refine wp_of e82 c82_10 (rw_if_eq (p1 := 19) (p2 := 13) (by decide) rfl ⟨Int.le_trans (by decide) b1072.1, Int.le_trans b1072.2 (by decide)⟩ (fun c1105 => ?_) (fun c1105 => ?_))
    · exfalso
      omega
    · refine wp_of e82 c82_13 (rw_aload_n (pc' := 14) (v := .ref r0) rfl rfl rfl ?_)
      refine wp_of e82 c82_14 (rw_iload_n (pc' := 15) (z := z1071) rfl rfl ?_)
      refine wp_of e82 c82_15 (xc_V (pc' := 18) (r := r0) (as := [vI z1071]) (st := []) (lm_0_70) rfl rfl (Nat.le_of_ble_eq_true rfl) w1069 g0 sh_1 (by decide) rfl (by decide) (u_12  w1069 g0 ⟨Int.le_trans (by decide) b1072.1, Int.le_trans b1072.2 (by decide)⟩) (fun R1106 T1107 H1108 p1109 => ?_))
      obtain ⟨e1110, w1112, f1113, z1114, e1111, b1115, p1116⟩ := p1109
      subst e1110
      subst e1111
      obtain ⟨a1117, a1118⟩ := p1116
      have f1119 := f1104.tr f1113 rfl
      show wp _ _ 82 18 [(1, vI z1071), (0, .ref r0)] [vI z1114] _ H1108 _
      have h1120 : CEN T H1108 ce e d := (CEN_fr w1069 gce f1113 rfl a1082)
      exact wp_ireturn e82 c82_18 rfl ⟨rfl, w1112, f1119, z1114, rfl, ⟨b1115.1, b1115.2⟩, (Or.inl ⟨by omega, by omega, h1120⟩)⟩
/-! StrikeAwake.can()I  -/
abbrev uq_92 (r0 : Nat) (cu : Nat) (wa : Nat) (ce : Nat) (e : xD) (d : xD) (n : Int) (T : wq_T) (H : wq_H) : Option Value → wq_T → wq_H → Prop := fun r T' H' => T = T' ∧ WT T H' ∧ wfr [(12, 5), (12, 6), (12, 7), (12, 8), (12, 9), (1, 10), (6, 5), (8, 999), (10, 999), (15, 999), (9, 999), (18, 999), (19, 999), (7, 999), (11, 999), (17, 999), (13, 999)] T H H' ∧ ∃ z : Int, some (vI z) = r ∧ ((-2147483648) ≤ z ∧ z ≤ 2147483647) ∧ (((z = -1) ∧ (H r0 8 = 0 ∨ 20000 < n) ∧ CEN T H' ce e d) ∨ ((0 ≤ z ∧ z ≤ 1) ∧ (H r0 8 ≠ 0 ∧ n ≤ 20000) ∧ ((z = 1 ∧ 0 < xcn (xwf e d) (xlots d).toNat) ∨ (z = 0 ∧ xcn (xwf e d) (xlots d).toNat ≤ 0)) ∧ CEN T H' ce e d))
set_option maxHeartbeats 4000000 in
theorem u_92 {kt : Nat → Option mc_E} {T : wq_T} {H : wq_H} {r0 : Nat} {cu : Nat} {wa : Nat} {ce : Nat} {e : xD} {d : xD} {n : Int} (hW : WT T H) (g0 : T.2.2.2 r0 = some 1) (qcu : H r0 6 = (cu : Int)) (gcu : T.2.2.2 cu = some 27) (qwa : H r0 2 = (wa : Int)) (gwa : T.2.2.2 wa = some 6) (qce : H r0 3 = (ce : Int)) (gce : T.2.2.2 ce = some 12) (p0 : ∀ i, i ≠ 13 → e i = d i) (p1 : XW d) (p2 : e 0 3 = d 0 3) (p3 : e 0 0 = d 0 0) (p4 : H r0 8 = 0 ∨ n = xlots d) (p5 : H r0 8 ≠ 0 ∨ (d 0 3 = 0 ∧ d 0 0 = 0)) (hCU_cu : CU T H cu e d n) (hCEN_ce : CEN T H ce e d) (hHDR_ce : HDR T H ce ) : wpc kt 6 92 [.ref r0] T H (uq_92 r0 cu wa ce e d n T H) := by
  refine wp_enter e92 (Nat.le_of_ble_eq_true rfl) rfl ?_
  have f0 : wfr [(12, 5), (12, 6), (12, 7), (12, 8), (12, 9), (1, 10), (6, 5), (8, 999), (10, 999), (15, 999), (9, 999), (18, 999), (19, 999), (7, 999), (11, 999), (17, 999), (13, 999)] T H H := wfr.rf
  show wp _ _ 92 0 [(0, .ref r0)] [] _ H _
  have u1074 := CU_k hCU_cu
  have b1075 : 0 ≤ H r0 8 ∧ H r0 8 ≤ 1 := hW.box g0 (n := 13) rfl (by decide) rfl
  have _c7 : d 0 0 ≤ 24 := p1.2.1.2.1
  refine wp_of e92 c92_0 (rw_aload_n (pc' := 1) (v := .ref r0) rfl rfl rfl ?_)
  refine wp_of e92 c92_1 (rw_aload_n (pc' := 2) (v := .ref r0) rfl rfl rfl ?_)
  refine wp_of e92 c92_2 (xg_I (pc' := 5) lf_0_58 hW g0 sh_1 (by decide) (by decide) ty_1_8 rfl rfl (fun b1076 b1077 => ?_))
  refine wp_of e92 c92_5 (xc_V (pc' := 8) (r := r0) (as := [vI (H r0 8)]) (st := []) (lm_0_174) rfl rfl (Nat.le_of_ble_eq_true rfl) hW g0 sh_1 (by decide) rfl (by decide) (u_83 (e := e) (d := d) (n := n) hW g0 ⟨b1076, b1077⟩ qcu gcu qwa gwa qce gce (by assumption) (by assumption) (by omega) (by omega) (by omega) hCU_cu hCEN_ce hHDR_ce) (fun R1078 T1079 H1080 p1081 => ?_))
  obtain ⟨e1082, w1084, f1085, z1086, e1083, b1087, p1088⟩ := p1081
  subst e1082
  subst e1083
  rcases p1088 with ⟨a1089, a1090, a1091, a1092, a1093, a1094⟩ | ⟨a1095, a1096, a1097⟩
  · have f1098 := f0.tr f1085 rfl
    show wp _ _ 92 8 [(0, .ref r0)] [vI z1086] _ H1080 _
    refine wp_of e92 c92_8 (rw_istore_n (pc' := 9) (z := z1086) (L' := [(1, vI z1086), (0, .ref r0)]) rfl rfl rfl ?_)
    refine wp_of e92 c92_9 (rw_iload_n (pc' := 10) (z := z1086) rfl rfl ?_)
    refine wp_of e92 c92_10 (rw_if_eq (p1 := 19) (p2 := 13) (by decide) rfl ⟨Int.le_trans (by decide) b1087.1, Int.le_trans b1087.2 (by decide)⟩ (fun c1099 => ?_) (fun c1099 => ?_))
    · have _cb := (a1093).1
      refine wp_of e92 c92_19 (rw_aload_n (pc' := 20) (v := .ref r0) rfl rfl rfl ?_)
      refine wp_of e92 c92_20 (rw_aload_n (pc' := 21) (v := .ref r0) rfl rfl rfl ?_)
      have k1100 : H1080 r0 3 = H r0 3 := (f1085 r0 3 _ g0 rfl)
      have q1101 : H1080 r0 3 = (ce : Int) := k1100.trans qce
      refine wp_of e92 c92_21 (xg_K (pc' := 24) lf_0_30 w1084 g0 sh_1 (by decide) (by decide) rfl q1101 rfl ?_)
      refine wp_of e92 c92_24 (xg_I (pc' := 27) lf_0_177 w1084 gce sh_12 (by decide) (by decide) ty_12_5 rfl rfl (fun b1102 b1103 => ?_))
      refine wp_of e92 c92_27 (rw_if_le (p1 := 34) (p2 := 30) (by decide) rfl ⟨b1102, b1103⟩ (fun c1104 => ?_) (fun c1104 => ?_))
      · refine wp_of e92 c92_34 (rw_iconst (pc' := 35) rfl ?_)
        refine wp_of e92 c92_35 (xc_V (pc' := 38) (r := r0) (as := [vI 0]) (st := []) (lm_0_99) rfl rfl (Nat.le_of_ble_eq_true rfl) w1084 g0 sh_1 (by decide) rfl (by decide) (u_51  w1084 g0 ⟨by decide, by decide⟩) (fun R1105 T1106 H1107 p1108 => ?_))
        obtain ⟨e1109, w1111, f1112, z1113, e1110, b1114, p1115⟩ := p1108
        subst e1109
        subst e1110
        obtain ⟨a1116, a1117⟩ := p1115
        have f1118 := f1098.tr f1112 rfl
        show wp _ _ 92 38 [(1, vI z1086), (0, .ref r0)] [vI z1113] _ H1107 _
        have h1119 : CEN T H1107 ce e d := (CEN_fr w1084 gce f1112 rfl a1092)
        exact wp_ireturn e92 c92_38 rfl ⟨rfl, w1111, f1118, z1113, rfl, ⟨b1114.1, b1114.2⟩, (Or.inr ⟨by omega, by omega, by omega, h1119⟩)⟩
      · refine wp_of e92 c92_30 (rw_iconst (pc' := 31) rfl ?_)
        refine wp_of e92 c92_31 (rw_goto (p1 := 35) (by decide) ?_)
        refine wp_of e92 c92_35 (xc_V (pc' := 38) (r := r0) (as := [vI 1]) (st := []) (lm_0_99) rfl rfl (Nat.le_of_ble_eq_true rfl) w1084 g0 sh_1 (by decide) rfl (by decide) (u_51  w1084 g0 ⟨by decide, by decide⟩) (fun R1120 T1121 H1122 p1123 => ?_))
        obtain ⟨e1124, w1126, f1127, z1128, e1125, b1129, p1130⟩ := p1123
        subst e1124
        subst e1125
        obtain ⟨a1131, a1132⟩ := p1130
        have f1133 := f1098.tr f1127 rfl
        show wp _ _ 92 38 [(1, vI z1086), (0, .ref r0)] [vI z1128] _ H1122 _
        have h1134 : CEN T H1122 ce e d := (CEN_fr w1084 gce f1127 rfl a1092)
        exact wp_ireturn e92 c92_38 rfl ⟨rfl, w1126, f1133, z1128, rfl, ⟨b1129.1, b1129.2⟩, (Or.inr ⟨by omega, by omega, by omega, h1134⟩)⟩
    · exfalso
      omega
  · have f1135 := f0.tr f1085 rfl
    show wp _ _ 92 8 [(0, .ref r0)] [vI z1086] _ H1080 _
    refine wp_of e92 c92_8 (rw_istore_n (pc' := 9) (z := z1086) (L' := [(1, vI z1086), (0, .ref r0)]) rfl rfl rfl ?_)
    refine wp_of e92 c92_9 (rw_iload_n (pc' := 10) (z := z1086) rfl rfl ?_)
    refine wp_of e92 c92_10 (rw_if_eq (p1 := 19) (p2 := 13) (by decide) rfl ⟨Int.le_trans (by decide) b1087.1, Int.le_trans b1087.2 (by decide)⟩ (fun c1136 => ?_) (fun c1136 => ?_))
    · exfalso
      omega
    · refine wp_of e92 c92_13 (rw_aload_n (pc' := 14) (v := .ref r0) rfl rfl rfl ?_)
      refine wp_of e92 c92_14 (rw_iload_n (pc' := 15) (z := z1086) rfl rfl ?_)
      refine wp_of e92 c92_15 (xc_V (pc' := 18) (r := r0) (as := [vI z1086]) (st := []) (lm_0_70) rfl rfl (Nat.le_of_ble_eq_true rfl) w1084 g0 sh_1 (by decide) rfl (by decide) (u_12  w1084 g0 ⟨Int.le_trans (by decide) b1087.1, Int.le_trans b1087.2 (by decide)⟩) (fun R1137 T1138 H1139 p1140 => ?_))
      obtain ⟨e1141, w1143, f1144, z1145, e1142, b1146, p1147⟩ := p1140
      subst e1141
      subst e1142
      obtain ⟨a1148, a1149⟩ := p1147
      have f1150 := f1135.tr f1144 rfl
      show wp _ _ 92 18 [(1, vI z1086), (0, .ref r0)] [vI z1145] _ H1139 _
      have h1151 : CEN T H1139 ce e d := (CEN_fr w1084 gce f1144 rfl a1097)
      exact wp_ireturn e92 c92_18 rfl ⟨rfl, w1143, f1150, z1145, rfl, ⟨b1146.1, b1146.2⟩, (Or.inl ⟨by omega, by omega, h1151⟩)⟩
