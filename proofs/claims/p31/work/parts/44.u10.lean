/-! StrikeAwake$Census.outermost([IIZ)I s -/
abbrev uq_118_s (r0 : Nat) (r1 : Nat) (a2 : Int) (a3 : Int) (e : xD) (d : xD) (T : wq_T) (H : wq_H) : Option Value → wq_T → wq_H → Prop := fun r T' H' => T = T' ∧ H = H' ∧ ∃ z : Int, some (vI z) = r ∧ ((-2147483648) ≤ z ∧ z ≤ 2147483647) ∧ (((XEX (decide (a3 ≠ 0)) (xwf e d) (fun n => (xpt d (xlot d n) (a2).toNat).2) (xlots d).toNat z)))
set_option maxHeartbeats 4000000 in
theorem u_118_s {kt : Nat → Option mc_E} {T : wq_T} {H : wq_H} {r0 : Nat} {r1 : Nat} {a2 : Int} {a3 : Int} {e : xD} {d : xD} (hW : WT T H) (g0 : T.2.2.2 r0 = some 12) (g1 : T.2.2.2 r1 = some 37) (i2 : 0 ≤ a2 ∧ a2 ≤ 5) (i3 : 0 ≤ a3 ∧ a3 ≤ 1) (p0 : XW d) (p1 : a2 < d 0 3) (p2 : 0 < xcn (xwf e d) (xlots d).toNat) (hHV1_r0 : HV1 T H r0 (d 0 3) (fun p i => xhc e d p i (xlots d).toNat)) (hRWs_r1 : RWs T H r1 ((xsp d (a2).toNat).length : Int) (fun i => ((xsp d (a2).toNat).getD i (0, 0)).2)) : wpc kt 1 118 [.ref r0, .ref r1, vI a2, vI a3] T H (uq_118_s r0 r1 a2 a3 e d T H) := by
  refine wp_enter e118 (Nat.le_of_ble_eq_true rfl) rfl ?_
  show wp _ _ 118 0 [(0, .ref r0), (1, .ref r1), (2, vI a2), (3, vI a3)] [] _ H _
  have p1 := (by assumption : XW d)
  have _xc := p1.2.1
  unfold XC at _xc
  have _l := @xsp_len d (a2).toNat p1.1
  refine wp_of e118 c118_0 (rw_iconst (pc' := 1) rfl ?_)
  refine wp_of e118 c118_1 (rw_istore (pc' := 3) (z := -1) (L' := [(4, vI (-1)), (0, .ref r0), (1, .ref r1), (2, vI a2), (3, vI a3)]) rfl rfl rfl ?_)
  refine wp_of e118 c118_3 (rw_iconst (pc' := 4) rfl ?_)
  refine wp_of e118 c118_4 (rw_istore (pc' := 6) (z := 0) (L' := [(5, vI 0), (4, vI (-1)), (0, .ref r0), (1, .ref r1), (2, vI a2), (3, vI a3)]) rfl rfl rfl ?_)
  have lp1405 : ∀ (n1406 : Nat) (v1408 : Int) (v1409 : Int), (0 ≤ v1408 ∧ v1408 ≤ 40) → ((-1) ≤ v1409 ∧ v1409 ≤ 24) → (XOU (decide (a3 ≠ 0)) (fun i => xhc e d (a2).toNat i (xlots d).toNat) (fun i => ((xsp d (a2).toNat).getD i (0, 0)).2) (v1408).toNat v1409) → (40 - v1408).toNat = n1406 → wp kt 0 118 6 [(5, vI v1408), (4, vI v1409), (0, .ref r0), (1, .ref r1), (2, vI a2), (3, vI a3)] [] T H (uq_118_s r0 r1 a2 a3 e d T H) := by
    intro n1406
    induction n1406 using Nat.strongRecOn with
    | _ n1406 ih1407 =>
      intro v1408 v1409 b1412 b1413 x1415 m1414
      refine wp_of e118 c118_6 (rw_iload (pc' := 8) (z := v1408) rfl rfl ?_)
      refine wp_of e118 c118_8 (rw_bipush (pc' := 10) (z := 40) rfl (by decide) ?_)
      refine wp_of e118 c118_10 (rw_icmp_ge (p1 := 74) (p2 := 13) (by decide) rfl ⟨Int.le_trans (by decide) b1412.1, Int.le_trans b1412.2 (by decide)⟩ ⟨by decide, by decide⟩ (fun c1416 => ?_) (fun c1416 => ?_))
      · have _z : XEX (decide (a3 ≠ 0)) (xwf e d) (fun n => (xpt d (xlot d n) (a2).toNat).2) (xlots d).toNat v1409 := XOU_e (p := (a2).toNat) (m := (decide (a3 ≠ 0))) (f := (fun i => ((xsp d (a2).toNat).getD i (0, 0)).2)) p1.1 (by omega) (by omega) (by rw [← show (v1408).toNat = 40 by omega]; assumption)
        refine wp_of e118 c118_74 (rw_iload (pc' := 76) (z := v1409) rfl rfl ?_)
        exact wp_ireturn e118 c118_76 rfl ⟨rfl, rfl, v1409, rfl, ⟨Int.le_trans (by decide) b1413.1, Int.le_trans b1413.2 (by decide)⟩, (_z)⟩
      · refine wp_of e118 c118_13 (rw_iload (pc' := 15) (z := v1408) rfl rfl ?_)
        refine wp_of e118 c118_15 (rw_aload_n (pc' := 16) (v := .ref r1) rfl rfl rfl ?_)
        refine wp_of e118 c118_16 (xa_N (pc' := 17) (n := 40) hW g1 sh_37 (by decide) rfl ?_)
        refine wp_of e118 c118_17 (rw_icmp_ge (p1 := 74) (p2 := 20) (by decide) rfl ⟨Int.le_trans (by decide) b1412.1, Int.le_trans b1412.2 (by decide)⟩ ⟨by decide, by decide⟩ (fun c1417 => ?_) (fun c1417 => ?_))
        · exfalso
          omega
        · refine wp_of e118 c118_20 (rw_aload_n (pc' := 21) (v := .ref r0) rfl rfl rfl ?_)
          refine wp_of e118 c118_21 (xg_R (pc' := 24) lf_4_17 hW g0 sh_12 (by decide) (by decide) ty_12_1 rfl rfl (fun r1418 q1419 g1420 => ?_))
          refine wp_of e118 c118_24 (rw_iload_n (pc' := 25) (z := a2) rfl rfl ?_)
          refine wp_of e118 c118_25 (xa_R (pc' := 26) (by decide) hW g1420 sh_14 (by decide) (ty_14 _) (i2.1) (Int.lt_of_le_of_lt i2.2 (by decide)) rfl (fun r1421 q1422 g1423 => ?_))
          refine wp_of e118 c118_26 (rw_iload (pc' := 28) (z := v1408) rfl rfl ?_)
          have _hl : H r1421 (v1408).toNat = xhc e d (a2).toNat (v1408).toNat (xlots d).toNat := hHV1_r0 _ _ (a2).toNat (v1408).toNat q1419 (by omega) (by omega) (by omega) q1422
          refine wp_of e118 c118_28 (xa_I (so := 0) (pc' := 29) hW g1423 sh_15 (by decide) (ty_15 _) (b1412.1) (by omega) rfl (fun b1424 b1425 => ?_))
          refine wp_of e118 c118_29 (rw_if_le (p1 := 68) (p2 := 32) (by decide) rfl ⟨b1424, b1425⟩ (fun c1426 => ?_) (fun c1426 => ?_))
          · have _q : XOU (decide (a3 ≠ 0)) (fun i => xhc e d (a2).toNat i (xlots d).toNat) (fun i => ((xsp d (a2).toNat).getD i (0, 0)).2) (v1408 + 1).toNat v1409 := by
              rw [show (v1408 + 1).toNat = (v1408).toNat + 1 by omega]
              first
              | exact XOU_n (by assumption : XOU (decide (a3 ≠ 0)) (fun i => xhc e d (a2).toNat i (xlots d).toNat) (fun i => ((xsp d (a2).toNat).getD i (0, 0)).2) (v1408).toNat v1409) (by show xhc e d (a2).toNat (v1408).toNat (xlots d).toNat ≤ 0; omega)
              | exact XOU_y (by assumption : XOU (decide (a3 ≠ 0)) (fun i => xhc e d (a2).toNat i (xlots d).toNat) (fun i => ((xsp d (a2).toNat).getD i (0, 0)).2) (v1408).toNat v1409) (by show 0 < xhc e d (a2).toNat (v1408).toNat (xlots d).toNat; omega) (by omega) (by omega) (by first | exact Or.inl (by omega) | exact Or.inr (by rw [if_pos (decide_eq_true (by omega))]; omega) | exact Or.inr (by rw [if_neg (fun c9 => absurd (of_decide_eq_true c9) (by omega))]; omega))
              | exact XOU_k (by assumption : XOU (decide (a3 ≠ 0)) (fun i => xhc e d (a2).toNat i (xlots d).toNat) (fun i => ((xsp d (a2).toNat).getD i (0, 0)).2) (v1408).toNat v1409) (by omega) (by first | (rw [if_pos (decide_eq_true (by omega))]; omega) | (rw [if_neg (fun c9 => absurd (of_decide_eq_true c9) (by omega))]; omega))
            refine wp_of e118 c118_68 (rw_iinc (pc' := 71) (z := v1408) (L' := [(5, vI (v1408 + 1)), (4, vI v1409), (0, .ref r0), (1, .ref r1), (2, vI a2), (3, vI a3)]) rfl rfl rfl rfl ?_)
            refine wp_of e118 c118_71 (rw_goto (p1 := 6) (by decide) ?_)
            exact wp_lc (ks := [5, 4, 0, 1, 2, 3]) (wl_c rfl (wl_c rfl (wl_c rfl (wl_c rfl (wl_c rfl (wl_c rfl wl_n)))))) rfl (by decide) (ih1407 _ (by omega) (v1408 + 1) v1409 ⟨by omega, by omega⟩ ⟨b1413.1, b1413.2⟩ (_q) rfl)
          · have _lt := xhc_lt (e := e) (i := (v1408).toNat) p1.1 (by omega : (((a2).toNat : Nat) : Int) < d 0 3) (by omega)
            have _nn := xsp_nn p1.1 _lt
            have _rw : H r1 (v1408).toNat = (fun i => ((xsp d (a2).toNat).getD i (0, 0)).2) (v1408).toNat := hRWs_r1 (v1408).toNat (by omega)
            have _rn : (fun i => ((xsp d (a2).toNat).getD i (0, 0)).2) (v1408).toNat = ((xsp d (a2).toNat).getD (v1408).toNat (0, 0)).2 := rfl
            refine wp_of e118 c118_32 (rw_iload (pc' := 34) (z := v1409) rfl rfl ?_)
            refine wp_of e118 c118_34 (rw_if_lt (p1 := 62) (p2 := 37) (by decide) rfl ⟨Int.le_trans (by decide) b1413.1, Int.le_trans b1413.2 (by decide)⟩ (fun c1427 => ?_) (fun c1427 => ?_))
            · refine wp_of e118 c118_62 (rw_aload_n (pc' := 63) (v := .ref r1) rfl rfl rfl ?_)
              refine wp_of e118 c118_63 (rw_iload (pc' := 65) (z := v1408) rfl rfl ?_)
              refine wp_of e118 c118_65 (xa_I (so := 0) (pc' := 66) hW g1 sh_37 (by decide) (ty_37 _) (b1412.1) (by omega) rfl (fun b1428 b1429 => ?_))
              refine wp_of e118 c118_66 (rw_istore (pc' := 68) (z := H r1 (v1408.toNat)) (L' := [(4, vI (H r1 (v1408.toNat))), (5, vI v1408), (0, .ref r0), (1, .ref r1), (2, vI a2), (3, vI a3)]) rfl rfl rfl ?_)
              have _q : XOU (decide (a3 ≠ 0)) (fun i => xhc e d (a2).toNat i (xlots d).toNat) (fun i => ((xsp d (a2).toNat).getD i (0, 0)).2) (v1408 + 1).toNat (H r1 (v1408.toNat)) := by
                rw [show (v1408 + 1).toNat = (v1408).toNat + 1 by omega]
                first
                | exact XOU_n (by assumption : XOU (decide (a3 ≠ 0)) (fun i => xhc e d (a2).toNat i (xlots d).toNat) (fun i => ((xsp d (a2).toNat).getD i (0, 0)).2) (v1408).toNat v1409) (by show xhc e d (a2).toNat (v1408).toNat (xlots d).toNat ≤ 0; omega)
                | exact XOU_y (by assumption : XOU (decide (a3 ≠ 0)) (fun i => xhc e d (a2).toNat i (xlots d).toNat) (fun i => ((xsp d (a2).toNat).getD i (0, 0)).2) (v1408).toNat v1409) (by show 0 < xhc e d (a2).toNat (v1408).toNat (xlots d).toNat; omega) (by omega) (by omega) (by first | exact Or.inl (by omega) | exact Or.inr (by rw [if_pos (decide_eq_true (by omega))]; omega) | exact Or.inr (by rw [if_neg (fun c9 => absurd (of_decide_eq_true c9) (by omega))]; omega))
                | exact XOU_k (by assumption : XOU (decide (a3 ≠ 0)) (fun i => xhc e d (a2).toNat i (xlots d).toNat) (fun i => ((xsp d (a2).toNat).getD i (0, 0)).2) (v1408).toNat v1409) (by omega) (by first | (rw [if_pos (decide_eq_true (by omega))]; omega) | (rw [if_neg (fun c9 => absurd (of_decide_eq_true c9) (by omega))]; omega))
              refine wp_of e118 c118_68 (rw_iinc (pc' := 71) (z := v1408) (L' := [(5, vI (v1408 + 1)), (4, vI (H r1 (v1408.toNat))), (0, .ref r0), (1, .ref r1), (2, vI a2), (3, vI a3)]) rfl rfl rfl rfl ?_)
              refine wp_of e118 c118_71 (rw_goto (p1 := 6) (by decide) ?_)
              exact wp_lc (ks := [5, 4, 0, 1, 2, 3]) (wl_c rfl (wl_c rfl (wl_c rfl (wl_c rfl (wl_c rfl (wl_c rfl wl_n)))))) rfl (by decide) (ih1407 _ (by omega) (v1408 + 1) (H r1 (v1408.toNat)) ⟨by omega, by omega⟩ ⟨b1428, b1429⟩ (_q) rfl)
            · refine wp_of e118 c118_37 (rw_iload_n (pc' := 38) (z := a3) rfl rfl ?_)
              refine wp_of e118 c118_38 (rw_if_eq (p1 := 53) (p2 := 41) (by decide) rfl ⟨Int.le_trans (by decide) i3.1, Int.le_trans i3.2 (by decide)⟩ (fun c1430 => ?_) (fun c1430 => ?_))
              · refine wp_of e118 c118_53 (rw_aload_n (pc' := 54) (v := .ref r1) rfl rfl rfl ?_)
                refine wp_of e118 c118_54 (rw_iload (pc' := 56) (z := v1408) rfl rfl ?_)
                refine wp_of e118 c118_56 (xa_I (so := 0) (pc' := 57) hW g1 sh_37 (by decide) (ty_37 _) (b1412.1) (by omega) rfl (fun b1431 b1432 => ?_))
                refine wp_of e118 c118_57 (rw_iload (pc' := 59) (z := v1409) rfl rfl ?_)
                refine wp_of e118 c118_59 (rw_icmp_ge (p1 := 68) (p2 := 62) (by decide) rfl ⟨Int.le_trans (by decide) b1431, Int.le_trans b1432 (by decide)⟩ ⟨Int.le_trans (by decide) b1413.1, Int.le_trans b1413.2 (by decide)⟩ (fun c1433 => ?_) (fun c1433 => ?_))
                · have _q : XOU (decide (a3 ≠ 0)) (fun i => xhc e d (a2).toNat i (xlots d).toNat) (fun i => ((xsp d (a2).toNat).getD i (0, 0)).2) (v1408 + 1).toNat v1409 := by
                    rw [show (v1408 + 1).toNat = (v1408).toNat + 1 by omega]
                    first
                    | exact XOU_n (by assumption : XOU (decide (a3 ≠ 0)) (fun i => xhc e d (a2).toNat i (xlots d).toNat) (fun i => ((xsp d (a2).toNat).getD i (0, 0)).2) (v1408).toNat v1409) (by show xhc e d (a2).toNat (v1408).toNat (xlots d).toNat ≤ 0; omega)
                    | exact XOU_y (by assumption : XOU (decide (a3 ≠ 0)) (fun i => xhc e d (a2).toNat i (xlots d).toNat) (fun i => ((xsp d (a2).toNat).getD i (0, 0)).2) (v1408).toNat v1409) (by show 0 < xhc e d (a2).toNat (v1408).toNat (xlots d).toNat; omega) (by omega) (by omega) (by first | exact Or.inl (by omega) | exact Or.inr (by rw [if_pos (decide_eq_true (by omega))]; omega) | exact Or.inr (by rw [if_neg (fun c9 => absurd (of_decide_eq_true c9) (by omega))]; omega))
                    | exact XOU_k (by assumption : XOU (decide (a3 ≠ 0)) (fun i => xhc e d (a2).toNat i (xlots d).toNat) (fun i => ((xsp d (a2).toNat).getD i (0, 0)).2) (v1408).toNat v1409) (by omega) (by first | (rw [if_pos (decide_eq_true (by omega))]; omega) | (rw [if_neg (fun c9 => absurd (of_decide_eq_true c9) (by omega))]; omega))
                  refine wp_of e118 c118_68 (rw_iinc (pc' := 71) (z := v1408) (L' := [(5, vI (v1408 + 1)), (4, vI v1409), (0, .ref r0), (1, .ref r1), (2, vI a2), (3, vI a3)]) rfl rfl rfl rfl ?_)
                  refine wp_of e118 c118_71 (rw_goto (p1 := 6) (by decide) ?_)
                  exact wp_lc (ks := [5, 4, 0, 1, 2, 3]) (wl_c rfl (wl_c rfl (wl_c rfl (wl_c rfl (wl_c rfl (wl_c rfl wl_n)))))) rfl (by decide) (ih1407 _ (by omega) (v1408 + 1) v1409 ⟨by omega, by omega⟩ ⟨b1413.1, b1413.2⟩ (_q) rfl)
                · refine wp_of e118 c118_62 (rw_aload_n (pc' := 63) (v := .ref r1) rfl rfl rfl ?_)
                  refine wp_of e118 c118_63 (rw_iload (pc' := 65) (z := v1408) rfl rfl ?_)
                  refine wp_of e118 c118_65 (xa_I (so := 0) (pc' := 66) hW g1 sh_37 (by decide) (ty_37 _) (b1412.1) (by omega) rfl (fun b1434 b1435 => ?_))
                  refine wp_of e118 c118_66 (rw_istore (pc' := 68) (z := H r1 (v1408.toNat)) (L' := [(4, vI (H r1 (v1408.toNat))), (5, vI v1408), (0, .ref r0), (1, .ref r1), (2, vI a2), (3, vI a3)]) rfl rfl rfl ?_)
                  have _q : XOU (decide (a3 ≠ 0)) (fun i => xhc e d (a2).toNat i (xlots d).toNat) (fun i => ((xsp d (a2).toNat).getD i (0, 0)).2) (v1408 + 1).toNat (H r1 (v1408.toNat)) := by
                    rw [show (v1408 + 1).toNat = (v1408).toNat + 1 by omega]
                    first
                    | exact XOU_n (by assumption : XOU (decide (a3 ≠ 0)) (fun i => xhc e d (a2).toNat i (xlots d).toNat) (fun i => ((xsp d (a2).toNat).getD i (0, 0)).2) (v1408).toNat v1409) (by show xhc e d (a2).toNat (v1408).toNat (xlots d).toNat ≤ 0; omega)
                    | exact XOU_y (by assumption : XOU (decide (a3 ≠ 0)) (fun i => xhc e d (a2).toNat i (xlots d).toNat) (fun i => ((xsp d (a2).toNat).getD i (0, 0)).2) (v1408).toNat v1409) (by show 0 < xhc e d (a2).toNat (v1408).toNat (xlots d).toNat; omega) (by omega) (by omega) (by first | exact Or.inl (by omega) | exact Or.inr (by rw [if_pos (decide_eq_true (by omega))]; omega) | exact Or.inr (by rw [if_neg (fun c9 => absurd (of_decide_eq_true c9) (by omega))]; omega))
                    | exact XOU_k (by assumption : XOU (decide (a3 ≠ 0)) (fun i => xhc e d (a2).toNat i (xlots d).toNat) (fun i => ((xsp d (a2).toNat).getD i (0, 0)).2) (v1408).toNat v1409) (by omega) (by first | (rw [if_pos (decide_eq_true (by omega))]; omega) | (rw [if_neg (fun c9 => absurd (of_decide_eq_true c9) (by omega))]; omega))
                  refine wp_of e118 c118_68 (rw_iinc (pc' := 71) (z := v1408) (L' := [(5, vI (v1408 + 1)), (4, vI (H r1 (v1408.toNat))), (0, .ref r0), (1, .ref r1), (2, vI a2), (3, vI a3)]) rfl rfl rfl rfl ?_)
                  refine wp_of e118 c118_71 (rw_goto (p1 := 6) (by decide) ?_)
                  exact wp_lc (ks := [5, 4, 0, 1, 2, 3]) (wl_c rfl (wl_c rfl (wl_c rfl (wl_c rfl (wl_c rfl (wl_c rfl wl_n)))))) rfl (by decide) (ih1407 _ (by omega) (v1408 + 1) (H r1 (v1408.toNat)) ⟨by omega, by omega⟩ ⟨b1434, b1435⟩ (_q) rfl)
              · refine wp_of e118 c118_41 (rw_aload_n (pc' := 42) (v := .ref r1) rfl rfl rfl ?_)
                refine wp_of e118 c118_42 (rw_iload (pc' := 44) (z := v1408) rfl rfl ?_)
                refine wp_of e118 c118_44 (xa_I (so := 0) (pc' := 45) hW g1 sh_37 (by decide) (ty_37 _) (b1412.1) (by omega) rfl (fun b1436 b1437 => ?_))
                refine wp_of e118 c118_45 (rw_iload (pc' := 47) (z := v1409) rfl rfl ?_)
                refine wp_of e118 c118_47 (rw_icmp_le (p1 := 68) (p2 := 50) (by decide) rfl ⟨Int.le_trans (by decide) b1436, Int.le_trans b1437 (by decide)⟩ ⟨Int.le_trans (by decide) b1413.1, Int.le_trans b1413.2 (by decide)⟩ (fun c1438 => ?_) (fun c1438 => ?_))
                · have _q : XOU (decide (a3 ≠ 0)) (fun i => xhc e d (a2).toNat i (xlots d).toNat) (fun i => ((xsp d (a2).toNat).getD i (0, 0)).2) (v1408 + 1).toNat v1409 := by
                    rw [show (v1408 + 1).toNat = (v1408).toNat + 1 by omega]
                    first
                    | exact XOU_n (by assumption : XOU (decide (a3 ≠ 0)) (fun i => xhc e d (a2).toNat i (xlots d).toNat) (fun i => ((xsp d (a2).toNat).getD i (0, 0)).2) (v1408).toNat v1409) (by show xhc e d (a2).toNat (v1408).toNat (xlots d).toNat ≤ 0; omega)
                    | exact XOU_y (by assumption : XOU (decide (a3 ≠ 0)) (fun i => xhc e d (a2).toNat i (xlots d).toNat) (fun i => ((xsp d (a2).toNat).getD i (0, 0)).2) (v1408).toNat v1409) (by show 0 < xhc e d (a2).toNat (v1408).toNat (xlots d).toNat; omega) (by omega) (by omega) (by first | exact Or.inl (by omega) | exact Or.inr (by rw [if_pos (decide_eq_true (by omega))]; omega) | exact Or.inr (by rw [if_neg (fun c9 => absurd (of_decide_eq_true c9) (by omega))]; omega))
                    | exact XOU_k (by assumption : XOU (decide (a3 ≠ 0)) (fun i => xhc e d (a2).toNat i (xlots d).toNat) (fun i => ((xsp d (a2).toNat).getD i (0, 0)).2) (v1408).toNat v1409) (by omega) (by first | (rw [if_pos (decide_eq_true (by omega))]; omega) | (rw [if_neg (fun c9 => absurd (of_decide_eq_true c9) (by omega))]; omega))
                  refine wp_of e118 c118_68 (rw_iinc (pc' := 71) (z := v1408) (L' := [(5, vI (v1408 + 1)), (4, vI v1409), (0, .ref r0), (1, .ref r1), (2, vI a2), (3, vI a3)]) rfl rfl rfl rfl ?_)
                  refine wp_of e118 c118_71 (rw_goto (p1 := 6) (by decide) ?_)
                  exact wp_lc (ks := [5, 4, 0, 1, 2, 3]) (wl_c rfl (wl_c rfl (wl_c rfl (wl_c rfl (wl_c rfl (wl_c rfl wl_n)))))) rfl (by decide) (ih1407 _ (by omega) (v1408 + 1) v1409 ⟨by omega, by omega⟩ ⟨b1413.1, b1413.2⟩ (_q) rfl)
                · refine wp_of e118 c118_50 (rw_goto (p1 := 62) (by decide) ?_)
                  refine wp_of e118 c118_62 (rw_aload_n (pc' := 63) (v := .ref r1) rfl rfl rfl ?_)
                  refine wp_of e118 c118_63 (rw_iload (pc' := 65) (z := v1408) rfl rfl ?_)
                  refine wp_of e118 c118_65 (xa_I (so := 0) (pc' := 66) hW g1 sh_37 (by decide) (ty_37 _) (b1412.1) (by omega) rfl (fun b1439 b1440 => ?_))
                  refine wp_of e118 c118_66 (rw_istore (pc' := 68) (z := H r1 (v1408.toNat)) (L' := [(4, vI (H r1 (v1408.toNat))), (5, vI v1408), (0, .ref r0), (1, .ref r1), (2, vI a2), (3, vI a3)]) rfl rfl rfl ?_)
                  have _q : XOU (decide (a3 ≠ 0)) (fun i => xhc e d (a2).toNat i (xlots d).toNat) (fun i => ((xsp d (a2).toNat).getD i (0, 0)).2) (v1408 + 1).toNat (H r1 (v1408.toNat)) := by
                    rw [show (v1408 + 1).toNat = (v1408).toNat + 1 by omega]
                    first
                    | exact XOU_n (by assumption : XOU (decide (a3 ≠ 0)) (fun i => xhc e d (a2).toNat i (xlots d).toNat) (fun i => ((xsp d (a2).toNat).getD i (0, 0)).2) (v1408).toNat v1409) (by show xhc e d (a2).toNat (v1408).toNat (xlots d).toNat ≤ 0; omega)
                    | exact XOU_y (by assumption : XOU (decide (a3 ≠ 0)) (fun i => xhc e d (a2).toNat i (xlots d).toNat) (fun i => ((xsp d (a2).toNat).getD i (0, 0)).2) (v1408).toNat v1409) (by show 0 < xhc e d (a2).toNat (v1408).toNat (xlots d).toNat; omega) (by omega) (by omega) (by first | exact Or.inl (by omega) | exact Or.inr (by rw [if_pos (decide_eq_true (by omega))]; omega) | exact Or.inr (by rw [if_neg (fun c9 => absurd (of_decide_eq_true c9) (by omega))]; omega))
                    | exact XOU_k (by assumption : XOU (decide (a3 ≠ 0)) (fun i => xhc e d (a2).toNat i (xlots d).toNat) (fun i => ((xsp d (a2).toNat).getD i (0, 0)).2) (v1408).toNat v1409) (by omega) (by first | (rw [if_pos (decide_eq_true (by omega))]; omega) | (rw [if_neg (fun c9 => absurd (of_decide_eq_true c9) (by omega))]; omega))
                  refine wp_of e118 c118_68 (rw_iinc (pc' := 71) (z := v1408) (L' := [(5, vI (v1408 + 1)), (4, vI (H r1 (v1408.toNat))), (0, .ref r0), (1, .ref r1), (2, vI a2), (3, vI a3)]) rfl rfl rfl rfl ?_)
                  refine wp_of e118 c118_71 (rw_goto (p1 := 6) (by decide) ?_)
                  exact wp_lc (ks := [5, 4, 0, 1, 2, 3]) (wl_c rfl (wl_c rfl (wl_c rfl (wl_c rfl (wl_c rfl (wl_c rfl wl_n)))))) rfl (by decide) (ih1407 _ (by omega) (v1408 + 1) (H r1 (v1408.toNat)) ⟨by omega, by omega⟩ ⟨b1439, b1440⟩ (_q) rfl)
  exact wp_lc (ks := [5, 4, 0, 1, 2, 3]) (wl_c rfl (wl_c rfl (wl_c rfl (wl_c rfl (wl_c rfl (wl_c rfl wl_n)))))) rfl (by decide) (lp1405 _ 0 (-1) ⟨by decide, by decide⟩ ⟨by decide, by decide⟩ (XOU_0) rfl)
/-! StrikeAwake.barOfWorlds(Z)I  -/
abbrev uq_83 (r0 : Nat) (a1 : Int) (cu : Nat) (wa : Nat) (ce : Nat) (e : xD) (d : xD) (n : Int) (T : wq_T) (H : wq_H) : Option Value → wq_T → wq_H → Prop := fun r T' H' => T = T' ∧ WT T H' ∧ wfr [(12, 5), (12, 6), (12, 7), (12, 8), (12, 9), (6, 5), (8, 999), (10, 999), (15, 999), (9, 999), (18, 999), (19, 999), (7, 999), (11, 999), (17, 999), (13, 999)] T H H' ∧ ∃ z : Int, some (vI z) = r ∧ (0 ≤ z ∧ z ≤ 6) ∧ (((z = 0) ∧ (a1 = 1) ∧ (n ≤ 20000) ∧ CEN T H' ce e d ∧ CEB T H' ce e d (xlots d).toNat ∧ CEX T H' ce e d (xlots d).toNat) ∨ ((1 ≤ z ∧ z ≤ 6) ∧ (a1 = 0 ∨ 20000 < n) ∧ CEN T H' ce e d))
set_option maxHeartbeats 4000000 in
theorem u_83 {kt : Nat → Option mc_E} {T : wq_T} {H : wq_H} {r0 : Nat} {a1 : Int} {cu : Nat} {wa : Nat} {ce : Nat} {e : xD} {d : xD} {n : Int} (hW : WT T H) (g0 : T.2.2.2 r0 = some 1) (i1 : 0 ≤ a1 ∧ a1 ≤ 1) (qcu : H r0 6 = (cu : Int)) (gcu : T.2.2.2 cu = some 27) (qwa : H r0 2 = (wa : Int)) (gwa : T.2.2.2 wa = some 6) (qce : H r0 3 = (ce : Int)) (gce : T.2.2.2 ce = some 12) (p0 : ∀ i, i ≠ 13 → e i = d i) (p1 : XW d) (p2 : e 0 3 = d 0 3) (p3 : e 0 0 = d 0 0) (p4 : a1 = 0 ∨ n = xlots d) (hCU_cu : CU T H cu e d n) (hCEN_ce : CEN T H ce e d) (hHDR_ce : HDR T H ce ) : wpc kt 5 83 [.ref r0, vI a1] T H (uq_83 r0 a1 cu wa ce e d n T H) := by
  refine wp_enter e83 (Nat.le_of_ble_eq_true rfl) rfl ?_
  have f0 : wfr [(12, 5), (12, 6), (12, 7), (12, 8), (12, 9), (6, 5), (8, 999), (10, 999), (15, 999), (9, 999), (18, 999), (19, 999), (7, 999), (11, 999), (17, 999), (13, 999)] T H H := wfr.rf
  show wp _ _ 83 0 [(0, .ref r0), (1, vI a1)] [] _ H _
  have u1032 := CU_k hCU_cu
  refine wp_of e83 c83_0 (rw_aload_n (pc' := 1) (v := .ref r0) rfl rfl rfl ?_)
  refine wp_of e83 c83_1 (rw_iload_n (pc' := 2) (z := a1) rfl rfl ?_)
  refine wp_of e83 c83_2 (xc_V (pc' := 5) (r := r0) (as := [vI a1]) (st := []) (lm_0_245) rfl rfl (Nat.le_of_ble_eq_true rfl) hW g0 sh_1 (by decide) rfl (by decide) (u_84 (e := e) (d := d) (n := n) hW g0 ⟨i1.1, i1.2⟩ qcu gcu hCU_cu) (fun R1033 T1034 H1035 p1036 => ?_))
  obtain ⟨e1037, e1039, z1040, e1038, b1041, p1042⟩ := p1036
  subst e1037
  subst e1038
  subst e1039
  rcases p1042 with ⟨a1043, a1044, a1045⟩ | ⟨a1046, a1047⟩
  · show wp _ _ 83 5 [(0, .ref r0), (1, vI a1)] [vI z1040] _ H _
    refine wp_of e83 c83_5 (rw_istore_n (pc' := 6) (z := z1040) (L' := [(2, vI z1040), (0, .ref r0), (1, vI a1)]) rfl rfl rfl ?_)
    refine wp_of e83 c83_6 (rw_iload_n (pc' := 7) (z := z1040) rfl rfl ?_)
    refine wp_of e83 c83_7 (rw_if_ne (p1 := 25) (p2 := 10) (by decide) rfl ⟨Int.le_trans (by decide) b1041.1, Int.le_trans b1041.2 (by decide)⟩ (fun c1048 => ?_) (fun c1048 => ?_))
    · exfalso
      omega
    · refine wp_of e83 c83_10 (rw_aload_n (pc' := 11) (v := .ref r0) rfl rfl rfl ?_)
      refine wp_of e83 c83_11 (xg_K (pc' := 14) lf_0_30 hW g0 sh_1 (by decide) (by decide) rfl qce rfl ?_)
      refine wp_of e83 c83_14 (rw_aload_n (pc' := 15) (v := .ref r0) rfl rfl rfl ?_)
      refine wp_of e83 c83_15 (xg_K (pc' := 18) lf_0_51 hW g0 sh_1 (by decide) (by decide) rfl qcu rfl ?_)
      refine wp_of e83 c83_18 (rw_aload_n (pc' := 19) (v := .ref r0) rfl rfl rfl ?_)
      refine wp_of e83 c83_19 (xg_K (pc' := 22) lf_0_23 hW g0 sh_1 (by decide) (by decide) rfl qwa rfl ?_)
      refine wp_of e83 c83_22 (xc_V (pc' := 25) (r := ce) (as := [.ref cu, .ref wa]) (st := []) (lm_0_254) rfl rfl (Nat.le_of_ble_eq_true rfl) hW gce sh_12 (by decide) rfl (by decide) (u_85 (e := e) (d := d) (n := n) hW gce gcu gwa (by assumption) (by assumption) (by omega) (by omega) (by omega) (by omega) hCU_cu hCEN_ce hHDR_ce) (fun R1049 T1050 H1051 p1052 => ?_))
      obtain ⟨e1053, w1055, f1056, e1054, p1057⟩ := p1052
      subst e1053
      subst e1054
      obtain ⟨a1058, a1059, a1060, a1061⟩ := p1057
      have f1062 := f0.tr f1056 rfl
      show wp _ _ 83 25 [(2, vI z1040), (0, .ref r0), (1, vI a1)] [] _ H1051 _
      refine wp_of e83 c83_25 (rw_iload_n (pc' := 26) (z := z1040) rfl rfl ?_)
      exact wp_ireturn e83 c83_26 rfl ⟨rfl, w1055, f1062, z1040, rfl, ⟨b1041.1, b1041.2⟩, (Or.inl ⟨by omega, by omega, by omega, a1061, a1059, a1060⟩)⟩
  · show wp _ _ 83 5 [(0, .ref r0), (1, vI a1)] [vI z1040] _ H _
    refine wp_of e83 c83_5 (rw_istore_n (pc' := 6) (z := z1040) (L' := [(2, vI z1040), (0, .ref r0), (1, vI a1)]) rfl rfl rfl ?_)
    refine wp_of e83 c83_6 (rw_iload_n (pc' := 7) (z := z1040) rfl rfl ?_)
    refine wp_of e83 c83_7 (rw_if_ne (p1 := 25) (p2 := 10) (by decide) rfl ⟨Int.le_trans (by decide) b1041.1, Int.le_trans b1041.2 (by decide)⟩ (fun c1063 => ?_) (fun c1063 => ?_))
    · refine wp_of e83 c83_25 (rw_iload_n (pc' := 26) (z := z1040) rfl rfl ?_)
      exact wp_ireturn e83 c83_26 rfl ⟨rfl, hW, f0, z1040, rfl, ⟨b1041.1, b1041.2⟩, (Or.inr ⟨by omega, by omega, hCEN_ce⟩)⟩
    · exfalso
      omega
/-! StrikeAwake.barOfSome(Z)I  -/
abbrev uq_102 (r0 : Nat) (a1 : Int) (cu : Nat) (wa : Nat) (ce : Nat) (e : xD) (d : xD) (n : Int) (T : wq_T) (H : wq_H) : Option Value → wq_T → wq_H → Prop := fun r T' H' => T = T' ∧ WT T H' ∧ wfr [(12, 5), (12, 6), (12, 7), (12, 8), (12, 9), (6, 5), (8, 999), (10, 999), (15, 999), (9, 999), (18, 999), (19, 999), (7, 999), (11, 999), (17, 999), (13, 999)] T H H' ∧ ∃ z : Int, some (vI z) = r ∧ (0 ≤ z ∧ z ≤ 6) ∧ (((z = 0) ∧ (a1 = 1) ∧ (n ≤ 20000) ∧ (0 < xcn (xwf e d) (xlots d).toNat) ∧ CEN T H' ce e d ∧ CEB T H' ce e d (xlots d).toNat ∧ CEX T H' ce e d (xlots d).toNat) ∨ ((1 ≤ z ∧ z ≤ 6) ∧ (a1 = 0 ∨ 20000 < n ∨ xcn (xwf e d) (xlots d).toNat ≤ 0) ∧ CEN T H' ce e d))
set_option maxHeartbeats 4000000 in
theorem u_102 {kt : Nat → Option mc_E} {T : wq_T} {H : wq_H} {r0 : Nat} {a1 : Int} {cu : Nat} {wa : Nat} {ce : Nat} {e : xD} {d : xD} {n : Int} (hW : WT T H) (g0 : T.2.2.2 r0 = some 1) (i1 : 0 ≤ a1 ∧ a1 ≤ 1) (qcu : H r0 6 = (cu : Int)) (gcu : T.2.2.2 cu = some 27) (qwa : H r0 2 = (wa : Int)) (gwa : T.2.2.2 wa = some 6) (qce : H r0 3 = (ce : Int)) (gce : T.2.2.2 ce = some 12) (p0 : ∀ i, i ≠ 13 → e i = d i) (p1 : XW d) (p2 : e 0 3 = d 0 3) (p3 : e 0 0 = d 0 0) (p4 : a1 = 0 ∨ n = xlots d) (hCU_cu : CU T H cu e d n) (hCEN_ce : CEN T H ce e d) (hHDR_ce : HDR T H ce ) : wpc kt 6 102 [.ref r0, vI a1] T H (uq_102 r0 a1 cu wa ce e d n T H) := by
  refine wp_enter e102 (Nat.le_of_ble_eq_true rfl) rfl ?_
  have f0 : wfr [(12, 5), (12, 6), (12, 7), (12, 8), (12, 9), (6, 5), (8, 999), (10, 999), (15, 999), (9, 999), (18, 999), (19, 999), (7, 999), (11, 999), (17, 999), (13, 999)] T H H := wfr.rf
  show wp _ _ 102 0 [(0, .ref r0), (1, vI a1)] [] _ H _
  have u1030 := CU_k hCU_cu
  refine wp_of e102 c102_0 (rw_aload_n (pc' := 1) (v := .ref r0) rfl rfl rfl ?_)
  refine wp_of e102 c102_1 (rw_iload_n (pc' := 2) (z := a1) rfl rfl ?_)
  refine wp_of e102 c102_2 (xc_V (pc' := 5) (r := r0) (as := [vI a1]) (st := []) (lm_0_174) rfl rfl (Nat.le_of_ble_eq_true rfl) hW g0 sh_1 (by decide) rfl (by decide) (u_83 (e := e) (d := d) (n := n) hW g0 ⟨i1.1, i1.2⟩ qcu gcu qwa gwa qce gce (by assumption) (by assumption) (by omega) (by omega) (by omega) hCU_cu hCEN_ce hHDR_ce) (fun R1031 T1032 H1033 p1034 => ?_))
  obtain ⟨e1035, w1037, f1038, z1039, e1036, b1040, p1041⟩ := p1034
  subst e1035
  subst e1036
  rcases p1041 with ⟨a1042, a1043, a1044, a1045, a1046, a1047⟩ | ⟨a1048, a1049, a1050⟩
  · have f1051 := f0.tr f1038 rfl
    show wp _ _ 102 5 [(0, .ref r0), (1, vI a1)] [vI z1039] _ H1033 _
    refine wp_of e102 c102_5 (rw_istore_n (pc' := 6) (z := z1039) (L' := [(2, vI z1039), (0, .ref r0), (1, vI a1)]) rfl rfl rfl ?_)
    refine wp_of e102 c102_6 (rw_iload_n (pc' := 7) (z := z1039) rfl rfl ?_)
    refine wp_of e102 c102_7 (rw_if_ne (p1 := 25) (p2 := 10) (by decide) rfl ⟨Int.le_trans (by decide) b1040.1, Int.le_trans b1040.2 (by decide)⟩ (fun c1052 => ?_) (fun c1052 => ?_))
    · exfalso
      omega
    · have _cbb := a1046
      have _cb := _cbb.1
      have _cb6 := _cbb.2.1
      have _cb8 := _cbb.2.2.1
      have _cb7 := _cbb.2.2.2.1
      have h1053 : CEM T H1033 ce (xwf e d) (xlots d).toNat := _cbb.2.2.2.2
      have _nb := xcn_b (f := xwf e d) (xlots d).toNat
      refine wp_of e102 c102_10 (rw_aload_n (pc' := 11) (v := .ref r0) rfl rfl rfl ?_)
      have k1054 : H1033 r0 3 = H r0 3 := (f1038 r0 3 _ g0 rfl)
      have q1055 : H1033 r0 3 = (ce : Int) := k1054.trans qce
      refine wp_of e102 c102_11 (xg_K (pc' := 14) lf_0_30 w1037 g0 sh_1 (by decide) (by decide) rfl q1055 rfl ?_)
      refine wp_of e102 c102_14 (xg_I (pc' := 17) lf_0_177 w1037 gce sh_12 (by decide) (by decide) ty_12_5 rfl rfl (fun b1056 b1057 => ?_))
      refine wp_of e102 c102_17 (rw_if_ne (p1 := 25) (p2 := 20) (by decide) rfl ⟨b1056, b1057⟩ (fun c1058 => ?_) (fun c1058 => ?_))
      · refine wp_of e102 c102_25 (rw_iload_n (pc' := 26) (z := z1039) rfl rfl ?_)
        exact wp_ireturn e102 c102_26 rfl ⟨rfl, w1037, f1051, z1039, rfl, ⟨b1040.1, b1040.2⟩, (Or.inl ⟨by omega, by omega, by omega, by omega, a1045, a1046, a1047⟩)⟩
      · refine wp_of e102 c102_20 (rw_bipush (pc' := 22) (z := 6) rfl (by decide) ?_)
        refine wp_of e102 c102_22 (rw_goto (p1 := 26) (by decide) ?_)
        exact wp_ireturn e102 c102_26 rfl ⟨rfl, w1037, f1051, 6, rfl, ⟨by decide, by decide⟩, (Or.inr ⟨by omega, by omega, a1045⟩)⟩
  · have f1059 := f0.tr f1038 rfl
    show wp _ _ 102 5 [(0, .ref r0), (1, vI a1)] [vI z1039] _ H1033 _
    refine wp_of e102 c102_5 (rw_istore_n (pc' := 6) (z := z1039) (L' := [(2, vI z1039), (0, .ref r0), (1, vI a1)]) rfl rfl rfl ?_)
    refine wp_of e102 c102_6 (rw_iload_n (pc' := 7) (z := z1039) rfl rfl ?_)
    refine wp_of e102 c102_7 (rw_if_ne (p1 := 25) (p2 := 10) (by decide) rfl ⟨Int.le_trans (by decide) b1040.1, Int.le_trans b1040.2 (by decide)⟩ (fun c1060 => ?_) (fun c1060 => ?_))
    · refine wp_of e102 c102_25 (rw_iload_n (pc' := 26) (z := z1039) rfl rfl ?_)
      exact wp_ireturn e102 c102_26 rfl ⟨rfl, w1037, f1059, z1039, rfl, ⟨b1040.1, b1040.2⟩, (Or.inr ⟨by omega, by omega, a1050⟩)⟩
    · exfalso
      omega
/-! StrikeAwake.barOfAsking(Z)I  -/
abbrev uq_121 (r0 : Nat) (a1 : Int) (cu : Nat) (wa : Nat) (ce : Nat) (e : xD) (d : xD) (n : Int) (T : wq_T) (H : wq_H) : Option Value → wq_T → wq_H → Prop := fun r T' H' => T = T' ∧ WT T H' ∧ wfr [(12, 5), (12, 6), (12, 7), (12, 8), (12, 9), (6, 5), (8, 999), (10, 999), (15, 999), (9, 999), (18, 999), (19, 999), (7, 999), (11, 999), (17, 999), (13, 999)] T H H' ∧ ∃ z : Int, some (vI z) = r ∧ (0 ≤ z ∧ z ≤ 6) ∧ (((z = 0) ∧ (a1 = 1) ∧ CEN T H' ce e d) ∨ ((1 ≤ z ∧ z ≤ 6) ∧ CEN T H' ce e d))
set_option maxHeartbeats 4000000 in
theorem u_121 {kt : Nat → Option mc_E} {T : wq_T} {H : wq_H} {r0 : Nat} {a1 : Int} {cu : Nat} {wa : Nat} {ce : Nat} {e : xD} {d : xD} {n : Int} (hW : WT T H) (g0 : T.2.2.2 r0 = some 1) (i1 : 0 ≤ a1 ∧ a1 ≤ 1) (qcu : H r0 6 = (cu : Int)) (gcu : T.2.2.2 cu = some 27) (qwa : H r0 2 = (wa : Int)) (gwa : T.2.2.2 wa = some 6) (qce : H r0 3 = (ce : Int)) (gce : T.2.2.2 ce = some 12) (p0 : ∀ i, i ≠ 13 → e i = d i) (p1 : XW d) (p2 : e 0 3 = d 0 3) (p3 : e 0 0 = d 0 0) (p4 : a1 = 0 ∨ n = xlots d) (hCU_cu : CU T H cu e d n) (hCEN_ce : CEN T H ce e d) (hHDR_ce : HDR T H ce ) : wpc kt 6 121 [.ref r0, vI a1] T H (uq_121 r0 a1 cu wa ce e d n T H) := by
  refine wp_enter e121 (Nat.le_of_ble_eq_true rfl) rfl ?_
  have f0 : wfr [(12, 5), (12, 6), (12, 7), (12, 8), (12, 9), (6, 5), (8, 999), (10, 999), (15, 999), (9, 999), (18, 999), (19, 999), (7, 999), (11, 999), (17, 999), (13, 999)] T H H := wfr.rf
  show wp _ _ 121 0 [(0, .ref r0), (1, vI a1)] [] _ H _
  have u1033 := CU_k hCU_cu
  refine wp_of e121 c121_0 (rw_aload_n (pc' := 1) (v := .ref r0) rfl rfl rfl ?_)
  refine wp_of e121 c121_1 (rw_iload_n (pc' := 2) (z := a1) rfl rfl ?_)
  refine wp_of e121 c121_2 (xc_V (pc' := 5) (r := r0) (as := [vI a1]) (st := []) (lm_0_174) rfl rfl (Nat.le_of_ble_eq_true rfl) hW g0 sh_1 (by decide) rfl (by decide) (u_83 (e := e) (d := d) (n := n) hW g0 ⟨i1.1, i1.2⟩ qcu gcu qwa gwa qce gce (by assumption) (by assumption) (by omega) (by omega) (by omega) hCU_cu hCEN_ce hHDR_ce) (fun R1034 T1035 H1036 p1037 => ?_))
  obtain ⟨e1038, w1040, f1041, z1042, e1039, b1043, p1044⟩ := p1037
  subst e1038
  subst e1039
  rcases p1044 with ⟨a1045, a1046, a1047, a1048, a1049, a1050⟩ | ⟨a1051, a1052, a1053⟩
  · have f1054 := f0.tr f1041 rfl
    show wp _ _ 121 5 [(0, .ref r0), (1, vI a1)] [vI z1042] _ H1036 _
    refine wp_of e121 c121_5 (rw_istore_n (pc' := 6) (z := z1042) (L' := [(2, vI z1042), (0, .ref r0), (1, vI a1)]) rfl rfl rfl ?_)
    refine wp_of e121 c121_6 (rw_iload_n (pc' := 7) (z := z1042) rfl rfl ?_)
    refine wp_of e121 c121_7 (rw_if_eq (p1 := 12) (p2 := 10) (by decide) rfl ⟨Int.le_trans (by decide) b1043.1, Int.le_trans b1043.2 (by decide)⟩ (fun c1055 => ?_) (fun c1055 => ?_))
    · refine wp_of e121 c121_12 (rw_aload_n (pc' := 13) (v := .ref r0) rfl rfl rfl ?_)
      have k1056 : H1036 r0 3 = H r0 3 := (f1041 r0 3 _ g0 rfl)
      have q1057 : H1036 r0 3 = (ce : Int) := k1056.trans qce
      refine wp_of e121 c121_13 (xg_K (pc' := 16) lf_0_30 w1040 g0 sh_1 (by decide) (by decide) rfl q1057 rfl ?_)
      refine wp_of e121 c121_16 (xg_I (pc' := 19) lf_0_177 w1040 gce sh_12 (by decide) (by decide) ty_12_5 rfl rfl (fun b1058 b1059 => ?_))
      refine wp_of e121 c121_19 (rw_sipush (pc' := 22) (z := 400) rfl (by decide) ?_)
      refine wp_of e121 c121_22 (rw_icmp_le (p1 := 27) (p2 := 25) (by decide) rfl ⟨b1058, b1059⟩ ⟨by decide, by decide⟩ (fun c1060 => ?_) (fun c1060 => ?_))
      · refine wp_of e121 c121_27 (rw_aload_n (pc' := 28) (v := .ref r0) rfl rfl rfl ?_)
        refine wp_of e121 c121_28 (xg_K (pc' := 31) lf_0_30 w1040 g0 sh_1 (by decide) (by decide) rfl q1057 rfl ?_)
        refine wp_of e121 c121_31 (xg_I (pc' := 34) lf_0_177 w1040 gce sh_12 (by decide) (by decide) ty_12_5 rfl rfl (fun b1061 b1062 => ?_))
        refine wp_of e121 c121_34 (rw_if_ne (p1 := 42) (p2 := 37) (by decide) rfl ⟨b1061, b1062⟩ (fun c1063 => ?_) (fun c1063 => ?_))
        · refine wp_of e121 c121_42 (rw_iconst (pc' := 43) rfl ?_)
          exact wp_ireturn e121 c121_43 rfl ⟨rfl, w1040, f1054, 0, rfl, ⟨by decide, by decide⟩, (Or.inl ⟨by omega, by omega, a1048⟩)⟩
        · refine wp_of e121 c121_37 (rw_bipush (pc' := 39) (z := 6) rfl (by decide) ?_)
          refine wp_of e121 c121_39 (rw_goto (p1 := 43) (by decide) ?_)
          exact wp_ireturn e121 c121_43 rfl ⟨rfl, w1040, f1054, 6, rfl, ⟨by decide, by decide⟩, (Or.inr ⟨by omega, a1048⟩)⟩
      · refine wp_of e121 c121_25 (rw_iconst (pc' := 26) rfl ?_)
        exact wp_ireturn e121 c121_26 rfl ⟨rfl, w1040, f1054, 3, rfl, ⟨by decide, by decide⟩, (Or.inr ⟨by omega, a1048⟩)⟩
    · exfalso
      omega
  · have f1064 := f0.tr f1041 rfl
    show wp _ _ 121 5 [(0, .ref r0), (1, vI a1)] [vI z1042] _ H1036 _
    refine wp_of e121 c121_5 (rw_istore_n (pc' := 6) (z := z1042) (L' := [(2, vI z1042), (0, .ref r0), (1, vI a1)]) rfl rfl rfl ?_)
    refine wp_of e121 c121_6 (rw_iload_n (pc' := 7) (z := z1042) rfl rfl ?_)
    refine wp_of e121 c121_7 (rw_if_eq (p1 := 12) (p2 := 10) (by decide) rfl ⟨Int.le_trans (by decide) b1043.1, Int.le_trans b1043.2 (by decide)⟩ (fun c1065 => ?_) (fun c1065 => ?_))
    · exfalso
      omega
    · refine wp_of e121 c121_10 (rw_iload_n (pc' := 11) (z := z1042) rfl rfl ?_)
      exact wp_ireturn e121 c121_11 rfl ⟨rfl, w1040, f1064, z1042, rfl, ⟨b1043.1, b1043.2⟩, (Or.inr ⟨by omega, a1053⟩)⟩
/-! StrikeAwake.worlds()I  -/
abbrev uq_82 (r0 : Nat) (cu : Nat) (wa : Nat) (ce : Nat) (e : xD) (d : xD) (n : Int) (T : wq_T) (H : wq_H) : Option Value → wq_T → wq_H → Prop := fun r T' H' => T = T' ∧ WT T H' ∧ wfr [(12, 5), (12, 6), (12, 7), (12, 8), (12, 9), (1, 10), (6, 5), (8, 999), (10, 999), (15, 999), (9, 999), (18, 999), (19, 999), (7, 999), (11, 999), (17, 999), (13, 999)] T H H' ∧ ∃ z : Int, some (vI z) = r ∧ ((-2147483648) ≤ z ∧ z ≤ 2147483647) ∧ (((z = -1) ∧ (H r0 8 = 0 ∨ 20000 < n) ∧ CEN T H' ce e d) ∨ ((H r0 8 ≠ 0 ∧ n ≤ 20000) ∧ (z = xcn (xwf e d) (xlots d).toNat) ∧ CEN T H' ce e d))
set_option maxHeartbeats 4000000 in
theorem u_82 {kt : Nat → Option mc_E} {T : wq_T} {H : wq_H} {r0 : Nat} {cu : Nat} {wa : Nat} {ce : Nat} {e : xD} {d : xD} {n : Int} (hW : WT T H) (g0 : T.2.2.2 r0 = some 1) (qcu : H r0 6 = (cu : Int)) (gcu : T.2.2.2 cu = some 27) (qwa : H r0 2 = (wa : Int)) (gwa : T.2.2.2 wa = some 6) (qce : H r0 3 = (ce : Int)) (gce : T.2.2.2 ce = some 12) (p0 : ∀ i, i ≠ 13 → e i = d i) (p1 : XW d) (p2 : e 0 3 = d 0 3) (p3 : e 0 0 = d 0 0) (p4 : H r0 8 = 0 ∨ n = xlots d) (p5 : H r0 8 ≠ 0 ∨ (d 0 3 = 0 ∧ d 0 0 = 0)) (hCU_cu : CU T H cu e d n) (hCEN_ce : CEN T H ce e d) (hHDR_ce : HDR T H ce ) : wpc kt 6 82 [.ref r0] T H (uq_82 r0 cu wa ce e d n T H) := by
  refine wp_enter e82 (Nat.le_of_ble_eq_true rfl) rfl ?_
  have f0 : wfr [(12, 5), (12, 6), (12, 7), (12, 8), (12, 9), (1, 10), (6, 5), (8, 999), (10, 999), (15, 999), (9, 999), (18, 999), (19, 999), (7, 999), (11, 999), (17, 999), (13, 999)] T H H := wfr.rf
  show wp _ _ 82 0 [(0, .ref r0)] [] _ H _
  have u1059 := CU_k hCU_cu
  have b1060 : 0 ≤ H r0 8 ∧ H r0 8 ≤ 1 := hW.box g0 (n := 13) rfl (by decide) rfl
  have _c7 : d 0 0 ≤ 24 := p1.2.1.2.1
  refine wp_of e82 c82_0 (rw_aload_n (pc' := 1) (v := .ref r0) rfl rfl rfl ?_)
  refine wp_of e82 c82_1 (rw_aload_n (pc' := 2) (v := .ref r0) rfl rfl rfl ?_)
  refine wp_of e82 c82_2 (xg_I (pc' := 5) lf_0_58 hW g0 sh_1 (by decide) (by decide) ty_1_8 rfl rfl (fun b1061 b1062 => ?_))
  refine wp_of e82 c82_5 (xc_V (pc' := 8) (r := r0) (as := [vI (H r0 8)]) (st := []) (lm_0_174) rfl rfl (Nat.le_of_ble_eq_true rfl) hW g0 sh_1 (by decide) rfl (by decide) (u_83 (e := e) (d := d) (n := n) hW g0 ⟨b1061, b1062⟩ qcu gcu qwa gwa qce gce (by assumption) (by assumption) (by omega) (by omega) (by omega) hCU_cu hCEN_ce hHDR_ce) (fun R1063 T1064 H1065 p1066 => ?_))
  obtain ⟨e1067, w1069, f1070, z1071, e1068, b1072, p1073⟩ := p1066
  subst e1067
  subst e1068
  rcases p1073 with ⟨a1074, a1075, a1076, a1077, a1078, a1079⟩ | ⟨a1080, a1081, a1082⟩
  · have f1083 := f0.tr f1070 rfl
    show wp _ _ 82 8 [(0, .ref r0)] [vI z1071] _ H1065 _
    refine wp_of e82 c82_8 (rw_istore_n (pc' := 9) (z := z1071) (L' := [(1, vI z1071), (0, .ref r0)]) rfl rfl rfl ?_)
    refine wp_of e82 c82_9 (rw_iload_n (pc' := 10) (z := z1071) rfl rfl ?_)
    refine wp_of e82 c82_10 (rw_if_eq (p1 := 19) (p2 := 13) (by decide) rfl ⟨Int.le_trans (by decide) b1072.1, Int.le_trans b1072.2 (by decide)⟩ (fun c1084 => ?_) (fun c1084 => ?_))
    · have _cb := (a1078).1
      refine wp_of e82 c82_19 (rw_aload_n (pc' := 20) (v := .ref r0) rfl rfl rfl ?_)
      refine wp_of e82 c82_20 (rw_aload_n (pc' := 21) (v := .ref r0) rfl rfl rfl ?_)
      have k1085 : H1065 r0 3 = H r0 3 := (f1070 r0 3 _ g0 rfl)
      have q1086 : H1065 r0 3 = (ce : Int) := k1085.trans qce
      refine wp_of e82 c82_21 (xg_K (pc' := 24) lf_0_30 w1069 g0 sh_1 (by decide) (by decide) rfl q1086 rfl ?_)
      refine wp_of e82 c82_24 (xg_I (pc' := 27) lf_0_177 w1069 gce sh_12 (by decide) (by decide) ty_12_5 rfl rfl (fun b1087 b1088 => ?_))
      refine wp_of e82 c82_27 (xc_V (pc' := 30) (r := r0) (as := [vI (H1065 ce 5)]) (st := []) (lm_0_99) rfl rfl (Nat.le_of_ble_eq_true rfl) w1069 g0 sh_1 (by decide) rfl (by decide) (u_51  w1069 g0 ⟨b1087, b1088⟩) (fun R1089 T1090 H1091 p1092 => ?_))
      obtain ⟨e1093, w1095, f1096, z1097, e1094, b1098, p1099⟩ := p1092
      subst e1093
      subst e1094
      obtain ⟨a1100, a1101⟩ := p1099
      have f1102 := f1083.tr f1096 rfl
      show wp _ _ 82 30 [(1, vI z1071), (0, .ref r0)] [vI z1097] _ H1091 _
      have h1103 : CEN T H1091 ce e d := (CEN_fr w1069 gce f1096 rfl a1077)
      exact wp_ireturn e82 c82_30 rfl ⟨rfl, w1095, f1102, z1097, rfl, ⟨b1098.1, b1098.2⟩, (Or.inr ⟨by omega, by omega, h1103⟩)⟩
    · exfalso
      omega
  · have f1104 := f0.tr f1070 rfl
    show wp _ _ 82 8 [(0, .ref r0)] [vI z1071] _ H1065 _
    refine wp_of e82 c82_8 (rw_istore_n (pc' := 9) (z := z1071) (L' := [(1, vI z1071), (0, .ref r0)]) rfl rfl rfl ?_)
    refine wp_of e82 c82_9 (rw_iload_n (pc' := 10) (z := z1071) rfl rfl ?_)
    refine wp_of e82 c82_10 (rw_if_eq (p1 := 19) (p2 := 13) (by decide) rfl ⟨Int.le_trans (by decide) b1072.1, Int.le_trans b1072.2 (by decide)⟩ (fun c1105 => ?_) (fun c1105 => ?_))
    · exfalso
      omega
    · refine wp_of e82 c82_13 (rw_aload_n (pc' := 14) (v := .ref r0) rfl rfl rfl ?_)
      refine wp_of e82 c82_14 (rw_iload_n (pc' := 15) (z := z1071) rfl rfl ?_)
      refine wp_of e82 c82_15 (xc_V (pc' := 18) (r := r0) (as := [vI z1071]) (st := []) (lm_0_70) rfl rfl (Nat.le_of_ble_eq_true rfl) w1069 g0 sh_1 (by decide) rfl (by decide) (u_12  w1069 g0 ⟨Int.le_trans (by decide) b1072.1, Int.le_trans b1072.2 (by decide)⟩) (fun R1106 T1107 H1108 p1109 => ?_))
      obtain ⟨e1110, w1112, f1113, z1114, e1111, b1115, p1116⟩ := p1109
      subst e1110
      subst e1111
      obtain ⟨a1117, a1118⟩ := p1116
      have f1119 := f1104.tr f1113 rfl
      show wp _ _ 82 18 [(1, vI z1071), (0, .ref r0)] [vI z1114] _ H1108 _
      have h1120 : CEN T H1108 ce e d := (CEN_fr w1069 gce f1113 rfl a1082)
      exact wp_ireturn e82 c82_18 rfl ⟨rfl, w1112, f1119, z1114, rfl, ⟨b1115.1, b1115.2⟩, (Or.inl ⟨by omega, by omega, h1120⟩)⟩
/-! StrikeAwake.can()I  -/
abbrev uq_92 (r0 : Nat) (cu : Nat) (wa : Nat) (ce : Nat) (e : xD) (d : xD) (n : Int) (T : wq_T) (H : wq_H) : Option Value → wq_T → wq_H → Prop := fun r T' H' => T = T' ∧ WT T H' ∧ wfr [(12, 5), (12, 6), (12, 7), (12, 8), (12, 9), (1, 10), (6, 5), (8, 999), (10, 999), (15, 999), (9, 999), (18, 999), (19, 999), (7, 999), (11, 999), (17, 999), (13, 999)] T H H' ∧ ∃ z : Int, some (vI z) = r ∧ ((-2147483648) ≤ z ∧ z ≤ 2147483647) ∧ (((z = -1) ∧ (H r0 8 = 0 ∨ 20000 < n) ∧ CEN T H' ce e d) ∨ ((0 ≤ z ∧ z ≤ 1) ∧ (H r0 8 ≠ 0 ∧ n ≤ 20000) ∧ ((z = 1 ∧ 0 < xcn (xwf e d) (xlots d).toNat) ∨ (z = 0 ∧ xcn (xwf e d) (xlots d).toNat ≤ 0)) ∧ CEN T H' ce e d))
set_option maxHeartbeats 4000000 in
theorem u_92 {kt : Nat → Option mc_E} {T : wq_T} {H : wq_H} {r0 : Nat} {cu : Nat} {wa : Nat} {ce : Nat} {e : xD} {d : xD} {n : Int} (hW : WT T H) (g0 : T.2.2.2 r0 = some 1) (qcu : H r0 6 = (cu : Int)) (gcu : T.2.2.2 cu = some 27) (qwa : H r0 2 = (wa : Int)) (gwa : T.2.2.2 wa = some 6) (qce : H r0 3 = (ce : Int)) (gce : T.2.2.2 ce = some 12) (p0 : ∀ i, i ≠ 13 → e i = d i) (p1 : XW d) (p2 : e 0 3 = d 0 3) (p3 : e 0 0 = d 0 0) (p4 : H r0 8 = 0 ∨ n = xlots d) (p5 : H r0 8 ≠ 0 ∨ (d 0 3 = 0 ∧ d 0 0 = 0)) (hCU_cu : CU T H cu e d n) (hCEN_ce : CEN T H ce e d) (hHDR_ce : HDR T H ce ) : wpc kt 6 92 [.ref r0] T H (uq_92 r0 cu wa ce e d n T H) := by
  refine wp_enter e92 (Nat.le_of_ble_eq_true rfl) rfl ?_
  have f0 : wfr [(12, 5), (12, 6), (12, 7), (12, 8), (12, 9), (1, 10), (6, 5), (8, 999), (10, 999), (15, 999), (9, 999), (18, 999), (19, 999), (7, 999), (11, 999), (17, 999), (13, 999)] T H H := wfr.rf
  show wp _ _ 92 0 [(0, .ref r0)] [] _ H _
  have u1074 := CU_k hCU_cu
  have b1075 : 0 ≤ H r0 8 ∧ H r0 8 ≤ 1 := hW.box g0 (n := 13) rfl (by decide) rfl
  have _c7 : d 0 0 ≤ 24 := p1.2.1.2.1
  refine wp_of e92 c92_0 (rw_aload_n (pc' := 1) (v := .ref r0) rfl rfl rfl ?_)
  refine wp_of e92 c92_1 (rw_aload_n (pc' := 2) (v := .ref r0) rfl rfl rfl ?_)
  refine wp_of e92 c92_2 (xg_I (pc' := 5) lf_0_58 hW g0 sh_1 (by decide) (by decide) ty_1_8 rfl rfl (fun b1076 b1077 => ?_))
  refine wp_of e92 c92_5 (xc_V (pc' := 8) (r := r0) (as := [vI (H r0 8)]) (st := []) (lm_0_174) rfl rfl (Nat.le_of_ble_eq_true rfl) hW g0 sh_1 (by decide) rfl (by decide) (u_83 (e := e) (d := d) (n := n) hW g0 ⟨b1076, b1077⟩ qcu gcu qwa gwa qce gce (by assumption) (by assumption) (by omega) (by omega) (by omega) hCU_cu hCEN_ce hHDR_ce) (fun R1078 T1079 H1080 p1081 => ?_))
  obtain ⟨e1082, w1084, f1085, z1086, e1083, b1087, p1088⟩ := p1081
  subst e1082
  subst e1083
  rcases p1088 with ⟨a1089, a1090, a1091, a1092, a1093, a1094⟩ | ⟨a1095, a1096, a1097⟩
  · have f1098 := f0.tr f1085 rfl
    show wp _ _ 92 8 [(0, .ref r0)] [vI z1086] _ H1080 _
    refine wp_of e92 c92_8 (rw_istore_n (pc' := 9) (z := z1086) (L' := [(1, vI z1086), (0, .ref r0)]) rfl rfl rfl ?_)
    refine wp_of e92 c92_9 (rw_iload_n (pc' := 10) (z := z1086) rfl rfl ?_)
    refine wp_of e92 c92_10 (rw_if_eq (p1 := 19) (p2 := 13) (by decide) rfl ⟨Int.le_trans (by decide) b1087.1, Int.le_trans b1087.2 (by decide)⟩ (fun c1099 => ?_) (fun c1099 => ?_))
    · have _cb := (a1093).1
      refine wp_of e92 c92_19 (rw_aload_n (pc' := 20) (v := .ref r0) rfl rfl rfl ?_)
      refine wp_of e92 c92_20 (rw_aload_n (pc' := 21) (v := .ref r0) rfl rfl rfl ?_)
      have k1100 : H1080 r0 3 = H r0 3 := (f1085 r0 3 _ g0 rfl)
      have q1101 : H1080 r0 3 = (ce : Int) := k1100.trans qce
      refine wp_of e92 c92_21 (xg_K (pc' := 24) lf_0_30 w1084 g0 sh_1 (by decide) (by decide) rfl q1101 rfl ?_)
      refine wp_of e92 c92_24 (xg_I (pc' := 27) lf_0_177 w1084 gce sh_12 (by decide) (by decide) ty_12_5 rfl rfl (fun b1102 b1103 => ?_))
      refine wp_of e92 c92_27 (rw_if_le (p1 := 34) (p2 := 30) (by decide) rfl ⟨b1102, b1103⟩ (fun c1104 => ?_) (fun c1104 => ?_))
      · refine wp_of e92 c92_34 (rw_iconst (pc' := 35) rfl ?_)
        refine wp_of e92 c92_35 (xc_V (pc' := 38) (r := r0) (as := [vI 0]) (st := []) (lm_0_99) rfl rfl (Nat.le_of_ble_eq_true rfl) w1084 g0 sh_1 (by decide) rfl (by decide) (u_51  w1084 g0 ⟨by decide, by decide⟩) (fun R1105 T1106 H1107 p1108 => ?_))
        obtain ⟨e1109, w1111, f1112, z1113, e1110, b1114, p1115⟩ := p1108
        subst e1109
        subst e1110
        obtain ⟨a1116, a1117⟩ := p1115
        have f1118 := f1098.tr f1112 rfl
        show wp _ _ 92 38 [(1, vI z1086), (0, .ref r0)] [vI z1113] _ H1107 _
        have h1119 : CEN T H1107 ce e d := (CEN_fr w1084 gce f1112 rfl a1092)
        exact wp_ireturn e92 c92_38 rfl ⟨rfl, w1111, f1118, z1113, rfl, ⟨b1114.1, b1114.2⟩, (Or.inr ⟨by omega, by omega, by omega, h1119⟩)⟩
      · refine wp_of e92 c92_30 (rw_iconst (pc' := 31) rfl ?_)
        refine wp_of e92 c92_31 (rw_goto (p1 := 35) (by decide) ?_)
        refine wp_of e92 c92_35 (xc_V (pc' := 38) (r := r0) (as := [vI 1]) (st := []) (lm_0_99) rfl rfl (Nat.le_of_ble_eq_true rfl) w1084 g0 sh_1 (by decide) rfl (by decide) (u_51  w1084 g0 ⟨by decide, by decide⟩) (fun R1120 T1121 H1122 p1123 => ?_))
        obtain ⟨e1124, w1126, f1127, z1128, e1125, b1129, p1130⟩ := p1123
        subst e1124
        subst e1125
        obtain ⟨a1131, a1132⟩ := p1130
        have f1133 := f1098.tr f1127 rfl
        show wp _ _ 92 38 [(1, vI z1086), (0, .ref r0)] [vI z1128] _ H1122 _
        have h1134 : CEN T H1122 ce e d := (CEN_fr w1084 gce f1127 rfl a1092)
        exact wp_ireturn e92 c92_38 rfl ⟨rfl, w1126, f1133, z1128, rfl, ⟨b1129.1, b1129.2⟩, (Or.inr ⟨by omega, by omega, by omega, h1134⟩)⟩
    · exfalso
      omega
  · have f1135 := f0.tr f1085 rfl
    show wp _ _ 92 8 [(0, .ref r0)] [vI z1086] _ H1080 _
    refine wp_of e92 c92_8 (rw_istore_n (pc' := 9) (z := z1086) (L' := [(1, vI z1086), (0, .ref r0)]) rfl rfl rfl ?_)
    refine wp_of e92 c92_9 (rw_iload_n (pc' := 10) (z := z1086) rfl rfl ?_)
    refine wp_of e92 c92_10 (rw_if_eq (p1 := 19) (p2 := 13) (by decide) rfl ⟨Int.le_trans (by decide) b1087.1, Int.le_trans b1087.2 (by decide)⟩ (fun c1136 => ?_) (fun c1136 => ?_))
    · exfalso
      omega
    · refine wp_of e92 c92_13 (rw_aload_n (pc' := 14) (v := .ref r0) rfl rfl rfl ?_)
      refine wp_of e92 c92_14 (rw_iload_n (pc' := 15) (z := z1086) rfl rfl ?_)
      refine wp_of e92 c92_15 (xc_V (pc' := 18) (r := r0) (as := [vI z1086]) (st := []) (lm_0_70) rfl rfl (Nat.le_of_ble_eq_true rfl) w1084 g0 sh_1 (by decide) rfl (by decide) (u_12  w1084 g0 ⟨Int.le_trans (by decide) b1087.1, Int.le_trans b1087.2 (by decide)⟩) (fun R1137 T1138 H1139 p1140 => ?_))
      obtain ⟨e1141, w1143, f1144, z1145, e1142, b1146, p1147⟩ := p1140
      subst e1141
      subst e1142
      obtain ⟨a1148, a1149⟩ := p1147
      have f1150 := f1135.tr f1144 rfl
      show wp _ _ 92 18 [(1, vI z1086), (0, .ref r0)] [vI z1145] _ H1139 _
      have h1151 : CEN T H1139 ce e d := (CEN_fr w1084 gce f1144 rfl a1097)
      exact wp_ireturn e92 c92_18 rfl ⟨rfl, w1143, f1150, z1145, rfl, ⟨b1146.1, b1146.2⟩, (Or.inl ⟨by omega, by omega, h1151⟩)⟩
