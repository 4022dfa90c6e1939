/-! what methods do (own work, written by wip/gen3/sx3.py) -/
/-! StrikeAwake$Census.outermost([IIZ)I s -/
abbrev uq_118_s (r0 : Nat) (r1 : Nat) (a2 : Int) (a3 : Int) (e : xD) (d : xD) (T : wq_T) (H : wq_H) : Option Value → wq_T → wq_H → Prop := fun r T' H' => T = T' ∧ H = H' ∧ ∃ z : Int, some (vI z) = r ∧ ((-2147483648) ≤ z ∧ z ≤ 2147483647) ∧ (((XEX (decide (a3 ≠ 0)) (xwf e d) (fun n => (xpt d (xlot d n) (a2).toNat).2) (xlots d).toNat z)))
set_option maxHeartbeats 4000000 in
theorem u_118_s {kt : Nat → Option mc_E} {T : wq_T} {H : wq_H} {r0 : Nat} {r1 : Nat} {a2 : Int} {a3 : Int} {e : xD} {d : xD} (hW : WT T H) (g0 : T.2.2.2 r0 = some 12) (g1 : T.2.2.2 r1 = some 37) (i2 : 0 ≤ a2 ∧ a2 ≤ 5) (i3 : 0 ≤ a3 ∧ a3 ≤ 1) (p0 : XW d) (p1 : a2 < d 0 3) (p2 : 0 < xcn (xwf e d) (xlots d).toNat) (hHV1_r0 : HV1 T H r0 (d 0 3) (fun p i => xhc e d p i (xlots d).toNat)) (hRWs_r1 : RWs T H r1 ((xsp d (a2).toNat).length : Int) (fun i => ((xsp d (a2).toNat).getD i (0, 0)).2)) : wpc kt 1 118 [.ref r0, .ref r1, vI a2, vI a3] T H (uq_118_s r0 r1 a2 a3 e d T H) := by
  refine wp_enter e118 (Nat.le_of_ble_eq_true rfl) rfl ?_
  show wp _ _ 118 0 [(0, .ref r0), (1, .ref r1), (2, vI a2), (3, vI a3)] [] _ H _
  have p1 := (by assumption : XW d)
  have _xc := p1.2.1
  unfold XC at _xc
  have _l := @xsp_len d (a2).toNat p1.1
  refine wp_of e118 c118_0 (rw_iconst (pc' := 1) rfl ?_)
  refine wp_of e118 c118_1 (rw_istore (pc' := 3) (z := -1) (L' := [(4, vI (-1)), (0, .ref r0), (1, .ref r1), (2, vI a2), (3, vI a3)]) rfl rfl rfl ?_)
  refine wp_of e118 c118_3 (rw_iconst (pc' := 4) rfl ?_)
  refine wp_of e118 c118_4 (rw_istore (pc' := 6) (z := 0) (L' := [(5, vI 0), (4, vI (-1)), (0, .ref r0), (1, .ref r1), (2, vI a2), (3, vI a3)]) rfl rfl rfl ?_)
  have lp1405 : ∀ (n1406 : Nat) (v1408 : Int) (v1409 : Int), (0 ≤ v1408 ∧ v1408 ≤ 40) → ((-1) ≤ v1409 ∧ v1409 ≤ 24) → (XOU (decide (a3 ≠ 0)) (fun i => xhc e d (a2).toNat i (xlots d).toNat) (fun i => ((xsp d (a2).toNat).getD i (0, 0)).2) (v1408).toNat v1409) → (40 - v1408).toNat = n1406 → wp kt 0 118 6 [(5, vI v1408), (4, vI v1409), (0, .ref r0), (1, .ref r1), (2, vI a2), (3, vI a3)] [] T H (uq_118_s r0 r1 a2 a3 e d T H) := by
    intro n1406
    induction n1406 using Nat.strongRecOn with
    | _ n1406 ih1407 =>
      intro v1408 v1409 b1412 b1413 x1415 m1414
      refine wp_of e118 c118_6 (rw_iload (pc' := 8) (z := v1408) rfl rfl ?_)
      refine wp_of e118 c118_8 (rw_bipush (pc' := 10) (z := 40) rfl (by decide) ?_)
      refine wp_of e118 c118_10 (rw_icmp_ge (p1 := 74) (p2 := 13) (by decide) rfl ⟨by omega, by omega⟩ ⟨by omega, by omega⟩ (fun c1416 => ?_) (fun c1416 => ?_))
      · have _z : XEX (decide (a3 ≠ 0)) (xwf e d) (fun n => (xpt d (xlot d n) (a2).toNat).2) (xlots d).toNat v1409 := XOU_e p1.1 (by omega) (by omega) (by rw [← show (v1408).toNat = 40 by omega]; assumption)
        refine wp_of e118 c118_74 (rw_iload (pc' := 76) (z := v1409) rfl rfl ?_)
        exact wp_ireturn e118 c118_76 rfl ⟨rfl, rfl, v1409, rfl, ⟨by omega, by omega⟩, (_z)⟩
      · refine wp_of e118 c118_13 (rw_iload (pc' := 15) (z := v1408) rfl rfl ?_)
        refine wp_of e118 c118_15 (rw_aload_n (pc' := 16) (v := .ref r1) rfl rfl rfl ?_)
        refine wp_of e118 c118_16 (xa_N (pc' := 17) (n := 40) hW g1 sh_37 (by decide) rfl ?_)
        refine wp_of e118 c118_17 (rw_icmp_ge (p1 := 74) (p2 := 20) (by decide) rfl ⟨by omega, by omega⟩ ⟨by omega, by omega⟩ (fun c1417 => ?_) (fun c1417 => ?_))
        · exfalso
          omega
        · refine wp_of e118 c118_20 (rw_aload_n (pc' := 21) (v := .ref r0) rfl rfl rfl ?_)
          refine wp_of e118 c118_21 (xg_R (pc' := 24) lf_4_17 hW g0 sh_12 (by decide) (by decide) ty_12_1 rfl rfl (fun r1418 q1419 g1420 => ?_))
          refine wp_of e118 c118_24 (rw_iload_n (pc' := 25) (z := a2) rfl rfl ?_)
          refine wp_of e118 c118_25 (xa_R (pc' := 26) (by decide) hW g1420 sh_14 (by decide) (ty_14 _) (by omega) (by omega) rfl (fun r1421 q1422 g1423 => ?_))
          refine wp_of e118 c118_26 (rw_iload (pc' := 28) (z := v1408) rfl rfl ?_)
          have _hl : H r1421 (v1408).toNat = xhc e d (a2).toNat (v1408).toNat (xlots d).toNat := hHV1_r0 _ _ (a2).toNat (v1408).toNat q1419 (by omega) (by omega) (by omega) q1422
          refine wp_of e118 c118_28 (xa_I (so := 0) (pc' := 29) hW g1423 sh_15 (by decide) (ty_15 _) (by omega) (by omega) rfl (fun b1424 b1425 => ?_))
          refine wp_of e118 c118_29 (rw_if_le (p1 := 68) (p2 := 32) (by decide) rfl ⟨by omega, by omega⟩ (fun c1426 => ?_) (fun c1426 => ?_))
          · have _q : XOU (decide (a3 ≠ 0)) (fun i => xhc e d (a2).toNat i (xlots d).toNat) (fun i => ((xsp d (a2).toNat).getD i (0, 0)).2) (v1408 + 1).toNat v1409 := by
              rw [show (v1408 + 1).toNat = (v1408).toNat + 1 by omega]
              first
              | exact XOU_n (by assumption : XOU (decide (a3 ≠ 0)) (fun i => xhc e d (a2).toNat i (xlots d).toNat) (fun i => ((xsp d (a2).toNat).getD i (0, 0)).2) (v1408).toNat v1409) (by show xhc e d (a2).toNat (v1408).toNat (xlots d).toNat ≤ 0; omega)
              | exact XOU_y (by assumption : XOU (decide (a3 ≠ 0)) (fun i => xhc e d (a2).toNat i (xlots d).toNat) (fun i => ((xsp d (a2).toNat).getD i (0, 0)).2) (v1408).toNat v1409) (by show 0 < xhc e d (a2).toNat (v1408).toNat (xlots d).toNat; omega) (by omega) (by omega) (by first | exact Or.inl (by omega) | exact Or.inr (by rw [if_pos (decide_eq_true (by omega))]; omega) | exact Or.inr (by rw [if_neg (fun c9 => of_decide_eq_true c9 (by omega))]; omega))
              | exact XOU_k (by assumption : XOU (decide (a3 ≠ 0)) (fun i => xhc e d (a2).toNat i (xlots d).toNat) (fun i => ((xsp d (a2).toNat).getD i (0, 0)).2) (v1408).toNat v1409) (by omega) (by first | (rw [if_pos (decide_eq_true (by omega))]; omega) | (rw [if_neg (fun c9 => of_decide_eq_true c9 (by omega))]; omega))
            refine wp_of e118 c118_68 (rw_iinc (pc' := 71) (z := v1408) (L' := [(5, vI (v1408 + 1)), (4, vI v1409), (0, .ref r0), (1, .ref r1), (2, vI a2), (3, vI a3)]) rfl rfl rfl rfl ?_)
            refine wp_of e118 c118_71 (rw_goto (p1 := 6) (by decide) ?_)
            exact wp_lc (ks := [5, 4, 0, 1, 2, 3]) (wl_c rfl (wl_c rfl (wl_c rfl (wl_c rfl (wl_c rfl (wl_c rfl wl_n)))))) rfl (by decide) (ih1407 _ (by omega) (v1408 + 1) v1409 ⟨by omega, by omega⟩ ⟨by omega, by omega⟩ (_q) rfl)
          · have _lt := xhc_lt (e := e) (i := (v1408).toNat) p1.1 (by omega : (((a2).toNat : Nat) : Int) < d 0 3) (by omega)
            have _rw : H r1 (v1408).toNat = (fun i => ((xsp d (a2).toNat).getD i (0, 0)).2) (v1408).toNat := hRWs_r1 (v1408).toNat (by omega)
            have _rn : (fun i => ((xsp d (a2).toNat).getD i (0, 0)).2) (v1408).toNat = ((xsp d (a2).toNat).getD (v1408).toNat (0, 0)).2 := rfl
            refine wp_of e118 c118_32 (rw_iload (pc' := 34) (z := v1409) rfl rfl ?_)
            refine wp_of e118 c118_34 (rw_if_lt (p1 := 62) (p2 := 37) (by decide) rfl ⟨by omega, by omega⟩ (fun c1427 => ?_) (fun c1427 => ?_))
            · refine wp_of e118 c118_62 (rw_aload_n (pc' := 63) (v := .ref r1) rfl rfl rfl ?_)
              refine wp_of e118 c118_63 (rw_iload (pc' := 65) (z := v1408) rfl rfl ?_)
              refine wp_of e118 c118_65 (xa_I (so := 0) (pc' := 66) hW g1 sh_37 (by decide) (ty_37 _) (by omega) (by omega) rfl (fun b1428 b1429 => ?_))
              refine wp_of e118 c118_66 (rw_istore (pc' := 68) (z := H r1 (v1408.toNat)) (L' := [(4, vI (H r1 (v1408.toNat))), (5, vI v1408), (0, .ref r0), (1, .ref r1), (2, vI a2), (3, vI a3)]) rfl rfl rfl ?_)
              have _q : XOU (decide (a3 ≠ 0)) (fun i => xhc e d (a2).toNat i (xlots d).toNat) (fun i => ((xsp d (a2).toNat).getD i (0, 0)).2) (v1408 + 1).toNat H r1 (v1408.toNat) := by
                rw [show (v1408 + 1).toNat = (v1408).toNat + 1 by omega]
                first
                | exact XOU_n (by assumption : XOU (decide (a3 ≠ 0)) (fun i => xhc e d (a2).toNat i (xlots d).toNat) (fun i => ((xsp d (a2).toNat).getD i (0, 0)).2) (v1408).toNat v1409) (by show xhc e d (a2).toNat (v1408).toNat (xlots d).toNat ≤ 0; omega)
                | exact XOU_y (by assumption : XOU (decide (a3 ≠ 0)) (fun i => xhc e d (a2).toNat i (xlots d).toNat) (fun i => ((xsp d (a2).toNat).getD i (0, 0)).2) (v1408).toNat v1409) (by show 0 < xhc e d (a2).toNat (v1408).toNat (xlots d).toNat; omega) (by omega) (by omega) (by first | exact Or.inl (by omega) | exact Or.inr (by rw [if_pos (decide_eq_true (by omega))]; omega) | exact Or.inr (by rw [if_neg (fun c9 => of_decide_eq_true c9 (by omega))]; omega))
                | exact XOU_k (by assumption : XOU (decide (a3 ≠ 0)) (fun i => xhc e d (a2).toNat i (xlots d).toNat) (fun i => ((xsp d (a2).toNat).getD i (0, 0)).2) (v1408).toNat v1409) (by omega) (by first | (rw [if_pos (decide_eq_true (by omega))]; omega) | (rw [if_neg (fun c9 => of_decide_eq_true c9 (by omega))]; omega))
              refine wp_of e118 c118_68 (rw_iinc (pc' := 71) (z := v1408) (L' := [(5, vI (v1408 + 1)), (4, vI (H r1 (v1408.toNat))), (0, .ref r0), (1, .ref r1), (2, vI a2), (3, vI a3)]) rfl rfl rfl rfl ?_)
              refine wp_of e118 c118_71 (rw_goto (p1 := 6) (by decide) ?_)
              exact wp_lc (ks := [5, 4, 0, 1, 2, 3]) (wl_c rfl (wl_c rfl (wl_c rfl (wl_c rfl (wl_c rfl (wl_c rfl wl_n)))))) rfl (by decide) (ih1407 _ (by omega) (v1408 + 1) (H r1 (v1408.toNat)) ⟨by omega, by omega⟩ ⟨by omega, by omega⟩ (_q) rfl)
            · refine wp_of e118 c118_37 (rw_iload_n (pc' := 38) (z := a3) rfl rfl ?_)
              refine wp_of e118 c118_38 (rw_if_eq (p1 := 53) (p2 := 41) (by decide) rfl ⟨by omega, by omega⟩ (fun c1430 => ?_) (fun c1430 => ?_))
              · refine wp_of e118 c118_53 (rw_aload_n (pc' := 54) (v := .ref r1) rfl rfl rfl ?_)
                refine wp_of e118 c118_54 (rw_iload (pc' := 56) (z := v1408) rfl rfl ?_)
                refine wp_of e118 c118_56 (xa_I (so := 0) (pc' := 57) hW g1 sh_37 (by decide) (ty_37 _) (by omega) (by omega) rfl (fun b1431 b1432 => ?_))
                refine wp_of e118 c118_57 (rw_iload (pc' := 59) (z := v1409) rfl rfl ?_)
                refine wp_of e118 c118_59 (rw_icmp_ge (p1 := 68) (p2 := 62) (by decide) rfl ⟨by omega, by omega⟩ ⟨by omega, by omega⟩ (fun c1433 => ?_) (fun c1433 => ?_))
                · have _q : XOU (decide (a3 ≠ 0)) (fun i => xhc e d (a2).toNat i (xlots d).toNat) (fun i => ((xsp d (a2).toNat).getD i (0, 0)).2) (v1408 + 1).toNat v1409 := by
                    rw [show (v1408 + 1).toNat = (v1408).toNat + 1 by omega]
                    first
                    | exact XOU_n (by assumption : XOU (decide (a3 ≠ 0)) (fun i => xhc e d (a2).toNat i (xlots d).toNat) (fun i => ((xsp d (a2).toNat).getD i (0, 0)).2) (v1408).toNat v1409) (by show xhc e d (a2).toNat (v1408).toNat (xlots d).toNat ≤ 0; omega)
                    | exact XOU_y (by assumption : XOU (decide (a3 ≠ 0)) (fun i => xhc e d (a2).toNat i (xlots d).toNat) (fun i => ((xsp d (a2).toNat).getD i (0, 0)).2) (v1408).toNat v1409) (by show 0 < xhc e d (a2).toNat (v1408).toNat (xlots d).toNat; omega) (by omega) (by omega) (by first | exact Or.inl (by omega) | exact Or.inr (by rw [if_pos (decide_eq_true (by omega))]; omega) | exact Or.inr (by rw [if_neg (fun c9 => of_decide_eq_true c9 (by omega))]; omega))
                    | exact XOU_k (by assumption : XOU (decide (a3 ≠ 0)) (fun i => xhc e d (a2).toNat i (xlots d).toNat) (fun i => ((xsp d (a2).toNat).getD i (0, 0)).2) (v1408).toNat v1409) (by omega) (by first | (rw [if_pos (decide_eq_true (by omega))]; omega) | (rw [if_neg (fun c9 => of_decide_eq_true c9 (by omega))]; omega))
                  refine wp_of e118 c118_68 (rw_iinc (pc' := 71) (z := v1408) (L' := [(5, vI (v1408 + 1)), (4, vI v1409), (0, .ref r0), (1, .ref r1), (2, vI a2), (3, vI a3)]) rfl rfl rfl rfl ?_)
                  refine wp_of e118 c118_71 (rw_goto (p1 := 6) (by decide) ?_)
                  exact wp_lc (ks := [5, 4, 0, 1, 2, 3]) (wl_c rfl (wl_c rfl (wl_c rfl (wl_c rfl (wl_c rfl (wl_c rfl wl_n)))))) rfl (by decide) (ih1407 _ (by omega) (v1408 + 1) v1409 ⟨by omega, by omega⟩ ⟨by omega, by omega⟩ (_q) rfl)
                · refine wp_of e118 c118_62 (rw_aload_n (pc' := 63) (v := .ref r1) rfl rfl rfl ?_)
                  refine wp_of e118 c118_63 (rw_iload (pc' := 65) (z := v1408) rfl rfl ?_)
                  refine wp_of e118 c118_65 (xa_I (so := 0) (pc' := 66) hW g1 sh_37 (by decide) (ty_37 _) (by omega) (by omega) rfl (fun b1434 b1435 => ?_))
                  refine wp_of e118 c118_66 (rw_istore (pc' := 68) (z := H r1 (v1408.toNat)) (L' := [(4, vI (H r1 (v1408.toNat))), (5, vI v1408), (0, .ref r0), (1, .ref r1), (2, vI a2), (3, vI a3)]) rfl rfl rfl ?_)
                  have _q : XOU (decide (a3 ≠ 0)) (fun i => xhc e d (a2).toNat i (xlots d).toNat) (fun i => ((xsp d (a2).toNat).getD i (0, 0)).2) (v1408 + 1).toNat H r1 (v1408.toNat) := by
                    rw [show (v1408 + 1).toNat = (v1408).toNat + 1 by omega]
                    first
                    | exact XOU_n (by assumption : XOU (decide (a3 ≠ 0)) (fun i => xhc e d (a2).toNat i (xlots d).toNat) (fun i => ((xsp d (a2).toNat).getD i (0, 0)).2) (v1408).toNat v1409) (by show xhc e d (a2).toNat (v1408).toNat (xlots d).toNat ≤ 0; omega)
                    | exact XOU_y (by assumption : XOU (decide (a3 ≠ 0)) (fun i => xhc e d (a2).toNat i (xlots d).toNat) (fun i => ((xsp d (a2).toNat).getD i (0, 0)).2) (v1408).toNat v1409) (by show 0 < xhc e d (a2).toNat (v1408).toNat (xlots d).toNat; omega) (by omega) (by omega) (by first | exact Or.inl (by omega) | exact Or.inr (by rw [if_pos (decide_eq_true (by omega))]; omega) | exact Or.inr (by rw [if_neg (fun c9 => of_decide_eq_true c9 (by omega))]; omega))
                    | exact XOU_k (by assumption : XOU (decide (a3 ≠ 0)) (fun i => xhc e d (a2).toNat i (xlots d).toNat) (fun i => ((xsp d (a2).toNat).getD i (0, 0)).2) (v1408).toNat v1409) (by omega) (by first | (rw [if_pos (decide_eq_true (by omega))]; omega) | (rw [if_neg (fun c9 => of_decide_eq_true c9 (by omega))]; omega))
                  refine wp_of e118 c118_68 (rw_iinc (pc' := 71) (z := v1408) (L' := [(5, vI (v1408 + 1)), (4, vI (H r1 (v1408.toNat))), (0, .ref r0), (1, .ref r1), (2, vI a2), (3, vI a3)]) rfl rfl rfl rfl ?_)
                  refine wp_of e118 c118_71 (rw_goto (p1 := 6) (by decide) ?_)
                  exact wp_lc (ks := [5, 4, 0, 1, 2, 3]) (wl_c rfl (wl_c rfl (wl_c rfl (wl_c rfl (wl_c rfl (wl_c rfl wl_n)))))) rfl (by decide) (ih1407 _ (by omega) (v1408 + 1) (H r1 (v1408.toNat)) ⟨by omega, by omega⟩ ⟨by omega, by omega⟩ (_q) rfl)
              · refine wp_of e118 c118_41 (rw_aload_n (pc' := 42) (v := .ref r1) rfl rfl rfl ?_)
                refine wp_of e118 c118_42 (rw_iload (pc' := 44) (z := v1408) rfl rfl ?_)
                refine wp_of e118 c118_44 (xa_I (so := 0) (pc' := 45) hW g1 sh_37 (by decide) (ty_37 _) (by omega) (by omega) rfl (fun b1436 b1437 => ?_))
                refine wp_of e118 c118_45 (rw_iload (pc' := 47) (z := v1409) rfl rfl ?_)
                refine wp_of e118 c118_47 (rw_icmp_le (p1 := 68) (p2 := 50) (by decide) rfl ⟨by omega, by omega⟩ ⟨by omega, by omega⟩ (fun c1438 => ?_) (fun c1438 => ?_))
                · have _q : XOU (decide (a3 ≠ 0)) (fun i => xhc e d (a2).toNat i (xlots d).toNat) (fun i => ((xsp d (a2).toNat).getD i (0, 0)).2) (v1408 + 1).toNat v1409 := by
                    rw [show (v1408 + 1).toNat = (v1408).toNat + 1 by omega]
                    first
                    | exact XOU_n (by assumption : XOU (decide (a3 ≠ 0)) (fun i => xhc e d (a2).toNat i (xlots d).toNat) (fun i => ((xsp d (a2).toNat).getD i (0, 0)).2) (v1408).toNat v1409) (by show xhc e d (a2).toNat (v1408).toNat (xlots d).toNat ≤ 0; omega)
                    | exact XOU_y (by assumption : XOU (decide (a3 ≠ 0)) (fun i => xhc e d (a2).toNat i (xlots d).toNat) (fun i => ((xsp d (a2).toNat).getD i (0, 0)).2) (v1408).toNat v1409) (by show 0 < xhc e d (a2).toNat (v1408).toNat (xlots d).toNat; omega) (by omega) (by omega) (by first | exact Or.inl (by omega) | exact Or.inr (by rw [if_pos (decide_eq_true (by omega))]; omega) | exact Or.inr (by rw [if_neg (fun c9 => of_decide_eq_true c9 (by omega))]; omega))
                    | exact XOU_k (by assumption : XOU (decide (a3 ≠ 0)) (fun i => xhc e d (a2).toNat i (xlots d).toNat) (fun i => ((xsp d (a2).toNat).getD i (0, 0)).2) (v1408).toNat v1409) (by omega) (by first | (rw [if_pos (decide_eq_true (by omega))]; omega) | (rw [if_neg (fun c9 => of_decide_eq_true c9 (by omega))]; omega))
                  refine wp_of e118 c118_68 (rw_iinc (pc' := 71) (z := v1408) (L' := [(5, vI (v1408 + 1)), (4, vI v1409), (0, .ref r0), (1, .ref r1), (2, vI a2), (3, vI a3)]) rfl rfl rfl rfl ?_)
                  refine wp_of e118 c118_71 (rw_goto (p1 := 6) (by decide) ?_)
                  exact wp_lc (ks := [5, 4, 0, 1, 2, 3]) (wl_c rfl (wl_c rfl (wl_c rfl (wl_c rfl (wl_c rfl (wl_c rfl wl_n)))))) rfl (by decide) (ih1407 _ (by omega) (v1408 + 1) v1409 ⟨by omega, by omega⟩ ⟨by omega, by omega⟩ (_q) rfl)
                · refine wp_of e118 c118_50 (rw_goto (p1 := 62) (by decide) ?_)
                  refine wp_of e118 c118_62 (rw_aload_n (pc' := 63) (v := .ref r1) rfl rfl rfl ?_)
                  refine wp_of e118 c118_63 (rw_iload (pc' := 65) (z := v1408) rfl rfl ?_)
                  refine wp_of e118 c118_65 (xa_I (so := 0) (pc' := 66) hW g1 sh_37 (by decide) (ty_37 _) (by omega) (by omega) rfl (fun b1439 b1440 => ?_))
                  refine wp_of e118 c118_66 (rw_istore (pc' := 68) (z := H r1 (v1408.toNat)) (L' := [(4, vI (H r1 (v1408.toNat))), (5, vI v1408), (0, .ref r0), (1, .ref r1), (2, vI a2), (3, vI a3)]) rfl rfl rfl ?_)
                  have _q : XOU (decide (a3 ≠ 0)) (fun i => xhc e d (a2).toNat i (xlots d).toNat) (fun i => ((xsp d (a2).toNat).getD i (0, 0)).2) (v1408 + 1).toNat H r1 (v1408.toNat) := by
                    rw [show (v1408 + 1).toNat = (v1408).toNat + 1 by omega]
                    first
                    | exact XOU_n (by assumption : XOU (decide (a3 ≠ 0)) (fun i => xhc e d (a2).toNat i (xlots d).toNat) (fun i => ((xsp d (a2).toNat).getD i (0, 0)).2) (v1408).toNat v1409) (by show xhc e d (a2).toNat (v1408).toNat (xlots d).toNat ≤ 0; omega)
                    | exact XOU_y (by assumption : XOU (decide (a3 ≠ 0)) (fun i => xhc e d (a2).toNat i (xlots d).toNat) (fun i => ((xsp d (a2).toNat).getD i (0, 0)).2) (v1408).toNat v1409) (by show 0 < xhc e d (a2).toNat (v1408).toNat (xlots d).toNat; omega) (by omega) (by omega) (by first | exact Or.inl (by omega) | exact Or.inr (by rw [if_pos (decide_eq_true (by omega))]; omega) | exact Or.inr (by rw [if_neg (fun c9 => of_decide_eq_true c9 (by omega))]; omega))
                    | exact XOU_k (by assumption : XOU (decide (a3 ≠ 0)) (fun i => xhc e d (a2).toNat i (xlots d).toNat) (fun i => ((xsp d (a2).toNat).getD i (0, 0)).2) (v1408).toNat v1409) (by omega) (by first | (rw [if_pos (decide_eq_true (by omega))]; omega) | (rw [if_neg (fun c9 => of_decide_eq_true c9 (by omega))]; omega))
                  refine wp_of e118 c118_68 (rw_iinc (pc' := 71) (z := v1408) (L' := [(5, vI (v1408 + 1)), (4, vI (H r1 (v1408.toNat))), (0, .ref r0), (1, .ref r1), (2, vI a2), (3, vI a3)]) rfl rfl rfl rfl ?_)
                  refine wp_of e118 c118_71 (rw_goto (p1 := 6) (by decide) ?_)
                  exact wp_lc (ks := [5, 4, 0, 1, 2, 3]) (wl_c rfl (wl_c rfl (wl_c rfl (wl_c rfl (wl_c rfl (wl_c rfl wl_n)))))) rfl (by decide) (ih1407 _ (by omega) (v1408 + 1) (H r1 (v1408.toNat)) ⟨by omega, by omega⟩ ⟨by omega, by omega⟩ (_q) rfl)
  exact wp_lc (ks := [5, 4, 0, 1, 2, 3]) (wl_c rfl (wl_c rfl (wl_c rfl (wl_c rfl (wl_c rfl (wl_c rfl wl_n)))))) rfl (by decide) (lp1405 _ 0 (-1) ⟨by omega, by omega⟩ ⟨by omega, by omega⟩ (XOU_0) rfl)
/-! StrikeAwake$Census.countAwake(LStrikeAwake$Parish;II)I  -/
abbrev uq_100 (r0 : Nat) (r1 : Nat) (a2 : Int) (a3 : Int) (e : xD) (d : xD) (n : Int) (T : wq_T) (H : wq_H) : Option Value → wq_T → wq_H → Prop := fun r T' H' => T = T' ∧ H = H' ∧ ∃ z : Int, some (vI z) = r ∧ (0 ≤ z ∧ z ≤ 800000) ∧ (((z = xta e d (a2).toNat (a3).toNat)))
set_option maxHeartbeats 4000000 in
theorem u_100 {kt : Nat → Option mc_E} {T : wq_T} {H : wq_H} {r0 : Nat} {r1 : Nat} {a2 : Int} {a3 : Int} {e : xD} {d : xD} {n : Int} (hW : WT T H) (g0 : T.2.2.2 r0 = some 12) (g1 : T.2.2.2 r1 = some 27) (i2 : 0 ≤ a2 ∧ a2 ≤ 5) (i3 : 0 ≤ a3 ∧ a3 ≤ 23) (p0 : ∀ i, i ≠ 13 → e i = d i) (p1 : XW d) (p2 : e 0 3 = d 0 3) (p3 : a2 < d 0 3) (p4 : xlots d ≤ 20000) (hCU_r1 : CU T H r1 e d n) (hHV1_r0 : HV1 T H r0 (d 0 3) (fun p i => xhc e d p i (xlots d).toNat)) : wpc kt 2 100 [.ref r0, .ref r1, vI a2, vI a3] T H (uq_100 r0 r1 a2 a3 e d n T H) := by
  refine wp_enter e100 (Nat.le_of_ble_eq_true rfl) rfl ?_
  show wp _ _ 100 0 [(0, .ref r0), (1, .ref r1), (2, vI a2), (3, vI a3)] [] _ H _
  have u1320 := CU_k hCU_r1
  have _k := CU_k hCU_r1
  have _xc := p1.2.1
  unfold XC at _xc
  have _d0 := p0 0 (by decide)
  have _e3 : e 0 3 = d 0 3 := by rw [_d0]
  have _e4 : e 0 4 = d 0 4 := by rw [_d0]
  have _e5 : e 0 5 = d 0 5 := by rw [_d0]
  have _nn : (((xlots d).toNat : Nat) : Int) ≤ 20000 := by omega
  refine wp_of e100 c100_0 (rw_aload_n (pc' := 1) (v := .ref r1) rfl rfl rfl ?_)
  refine wp_of e100 c100_1 (xg_R (pc' := 4) lf_4_78 hW g1 sh_27 (by decide) (by decide) ty_27_0 rfl rfl (fun r1321 q1322 g1323 => ?_))
  refine wp_of e100 c100_4 (rw_iload_n (pc' := 5) (z := a2) rfl rfl ?_)
  refine wp_of e100 c100_5 (xa_R (pc' := 6) (by decide) hW g1323 sh_28 (by decide) (ty_28 _) (by omega) (by omega) rfl (fun r1324 q1325 g1326 => ?_))
  have _z := CS_at (hCU_r1).2.1 q1322 q1325 (k := (a2).toNat) (by omega) (by omega)
  have _l := @xsp_len d (a2).toNat (hCU_r1).2.1.1
  have h1327 : PS T H r1324 d (a2).toNat (xsp d (a2).toNat) := _z.1
  have _n := h1327.1
  refine wp_of e100 c100_6 (rw_astore (pc' := 8) (v := .ref r1324) (L' := [(4, .ref r1324), (0, .ref r0), (1, .ref r1), (2, vI a2), (3, vI a3)]) rfl rfl rfl rfl ?_)
  refine wp_of e100 c100_8 (rw_iconst (pc' := 9) rfl ?_)
  refine wp_of e100 c100_9 (rw_istore (pc' := 11) (z := 0) (L' := [(5, vI 0), (4, .ref r1324), (0, .ref r0), (1, .ref r1), (2, vI a2), (3, vI a3)]) rfl rfl rfl ?_)
  refine wp_of e100 c100_11 (rw_iconst (pc' := 12) rfl ?_)
  refine wp_of e100 c100_12 (rw_istore (pc' := 14) (z := 0) (L' := [(6, vI 0), (5, vI 0), (4, .ref r1324), (0, .ref r0), (1, .ref r1), (2, vI a2), (3, vI a3)]) rfl rfl rfl ?_)
  have lp1606 : ∀ (n1607 : Nat) (v1609 : Int) (v1610 : Int), (0 ≤ v1609 ∧ v1609 ≤ 40) → (0 ≤ v1610 ∧ v1610 ≤ 800000) → (v1609 ≤ ((xsp d (a2).toNat).length : Int)) → (v1610 ≤ 20000 * v1609) → (v1610 = ssm (fun i => decide (hb (xwk d (a2).toNat ((xsp d (a2).toNat).getD i (0, 0))) (a3).toNat = 1)) (fun i => xhc e d (a2).toNat i (xlots d).toNat) (v1609).toNat) → (40 - v1609).toNat = n1607 → wp kt 1 100 14 [(6, vI v1609), (5, vI v1610), (4, .ref r1324), (0, .ref r0), (2, vI a2), (3, vI a3)] [] T H (uq_100 r0 r1 a2 a3 e d n T H) := by
    intro n1607
    induction n1607 using Nat.strongRecOn with
    | _ n1607 ih1608 =>
      intro v1609 v1610 b1613 b1614 x1616 x1617 x1618 m1615
      refine wp_of e100 c100_14 (rw_iload (pc' := 16) (z := v1609) rfl rfl ?_)
      refine wp_of e100 c100_16 (rw_aload (pc' := 18) (v := .ref r1324) rfl rfl rfl ?_)
      refine wp_of e100 c100_18 (xg_I (pc' := 21) lf_4_116 hW g1326 sh_35 (by decide) (by decide) ty_35_15 rfl rfl (fun b1619 b1620 => ?_))
      refine wp_of e100 c100_21 (rw_icmp_ge (p1 := 59) (p2 := 24) (by decide) rfl ⟨by omega, by omega⟩ ⟨by omega, by omega⟩ (fun c1621 => ?_) (fun c1621 => ?_))
      · have _z : v1610 = xta e d (a2).toNat (a3).toNat := by
          rw [← xta_s p1.1 (by omega), show (xsp d (a2).toNat).length = (v1609).toNat by omega]
          assumption
        refine wp_of e100 c100_59 (rw_iload (pc' := 61) (z := v1610) rfl rfl ?_)
        exact wp_ireturn e100 c100_61 rfl ⟨rfl, rfl, v1610, rfl, ⟨by omega, by omega⟩, (_z)⟩
      · refine wp_of e100 c100_24 (rw_aload (pc' := 26) (v := .ref r1324) rfl rfl rfl ?_)
        refine wp_of e100 c100_26 (xg_R (pc' := 29) lf_4_119 hW g1326 sh_35 (by decide) (by decide) ty_35_3 rfl rfl (fun r1622 q1623 g1624 => ?_))
        refine wp_of e100 c100_29 (rw_iload (pc' := 31) (z := v1609) rfl rfl ?_)
        have _a := DA_at (h1327).2.2.2.2.1 q1623 (k := (v1609).toNat) (by omega)
        have _x : xr4 d (a2).toNat (xsp d (a2).toNat) (v1609).toNat = xwk d (a2).toNat ((xsp d (a2).toNat).getD (v1609).toNat (0, 0)) := rfl
        refine wp_of e100 c100_31 (xa_I (so := 0) (pc' := 32) hW g1624 sh_39 (by decide) (ty_39 _) (by omega) (by omega) rfl (fun b1625 b1626 => ?_))
        have _hv := hb_and (b := xwk d (a2).toNat ((xsp d (a2).toNat).getD (v1609).toNat (0, 0))) (h := (a3).toNat) (by have := @xwk_b d (a2).toNat ((xsp d (a2).toNat).getD (v1609).toNat (0, 0)); omega) (by omega)
        rw [Int.toNat_of_nonneg (by omega : 0 ≤ a3), ← (show H r1622 (v1609.toNat) = xwk d (a2).toNat ((xsp d (a2).toNat).getD (v1609).toNat (0, 0)) by omega)] at _hv
        have _hw : hb (xwk d (a2).toNat ((xsp d (a2).toNat).getD (v1609).toNat (0, 0))) (a3).toNat = hb (H r1622 (v1609.toNat)) (a3).toNat := by rw [show H r1622 (v1609.toNat) = xwk d (a2).toNat ((xsp d (a2).toNat).getD (v1609).toNat (0, 0)) by omega]
        have _hc := @hb_b (H r1622 (v1609.toNat)) (a3).toNat
        refine wp_of e100 c100_32 (rw_iload_n (pc' := 33) (z := a3) rfl rfl ?_)
        refine wp_of e100 c100_33 (xc_S (pc' := 36) (as := [vI (H r1622 (v1609.toNat)), vI a3]) (st := []) (lm_4_122) rfl rfl (Nat.le_of_ble_eq_true rfl) rfl (by decide) (u_36  hW ⟨by omega, by omega⟩ ⟨by omega, by omega⟩) (fun R1627 T1628 H1629 p1630 => ?_))
        obtain ⟨e1631, e1633, z1634, e1632, b1635, p1636⟩ := p1630
        subst e1631
        subst e1632
        subst e1633
        rcases p1636 with ⟨a1637, a1638⟩ | ⟨a1639, a1640⟩
        · show wp _ _ 100 36 [(6, vI v1609), (5, vI v1610), (4, .ref r1324), (0, .ref r0), (2, vI a2), (3, vI a3)] [vI z1634] _ H _
          refine wp_of e100 c100_36 (rw_if_eq (p1 := 53) (p2 := 39) (by decide) rfl ⟨by omega, by omega⟩ (fun c1641 => ?_) (fun c1641 => ?_))
          · exfalso
            omega
          · refine wp_of e100 c100_39 (rw_iload (pc' := 41) (z := v1610) rfl rfl ?_)
            refine wp_of e100 c100_41 (rw_aload_n (pc' := 42) (v := .ref r0) rfl rfl rfl ?_)
            refine wp_of e100 c100_42 (xg_R (pc' := 45) lf_4_17 hW g0 sh_12 (by decide) (by decide) ty_12_1 rfl rfl (fun r1642 q1643 g1644 => ?_))
            refine wp_of e100 c100_45 (rw_iload_n (pc' := 46) (z := a2) rfl rfl ?_)
            refine wp_of e100 c100_46 (xa_R (pc' := 47) (by decide) hW g1644 sh_14 (by decide) (ty_14 _) (by omega) (by omega) rfl (fun r1645 q1646 g1647 => ?_))
            refine wp_of e100 c100_47 (rw_iload (pc' := 49) (z := v1609) rfl rfl ?_)
            have _hl : H r1645 (v1609).toNat = xhc e d (a2).toNat (v1609).toNat (xlots d).toNat := hHV1_r0 _ _ (a2).toNat (v1609).toNat q1643 (by omega) (by omega) (by omega) q1646
            have _hb := xhc_b (N := (xlots d).toNat) (e := e) (d := d) (p := (a2).toNat) (i := (v1609).toNat)
            refine wp_of e100 c100_49 (xa_I (so := 0) (pc' := 50) hW g1647 sh_15 (by decide) (ty_15 _) (by omega) (by omega) rfl (fun b1648 b1649 => ?_))
            refine wp_of e100 c100_50 (rw_iaddw (pc' := 51) rfl ?_)
            obtain ⟨v1650, e1651⟩ : ∃ x : Int, x = wq_w (v1610 + (H r1645 (v1609.toNat))) := ⟨_, rfl⟩
            rw [← e1651]
            have b1652 : -2147483648 ≤ v1650 ∧ v1650 ≤ 2147483647 := by
              rw [e1651]
              exact wI_w _
            have b1653 : (-2147483648 ≤ v1610 + (H r1645 (v1609.toNat)) ∧ v1610 + (H r1645 (v1609.toNat)) ≤ 2147483647) → v1650 = v1610 + (H r1645 (v1609.toNat)) := fun h => by rw [e1651]; exact wq_w_id h
            refine wp_of e100 c100_51 (rw_istore (pc' := 53) (z := v1650) (L' := [(5, vI v1650), (6, vI v1609), (4, .ref r1324), (0, .ref r0), (2, vI a2), (3, vI a3)]) rfl rfl rfl ?_)
            have _q : v1650 = ssm (fun i => decide (hb (xwk d (a2).toNat ((xsp d (a2).toNat).getD i (0, 0))) (a3).toNat = 1)) (fun i => xhc e d (a2).toNat i (xlots d).toNat) (v1609 + 1).toNat := by
              rw [← ssm_y (z := H r1645 (v1609).toNat) (by omega) (decide_eq_true (by omega)) (by omega), ← ‹v1610 = ssm (fun i => decide (hb (xwk d (a2).toNat ((xsp d (a2).toNat).getD i (0, 0))) (a3).toNat = 1)) (fun i => xhc e d (a2).toNat i (xlots d).toNat) (v1609).toNat›]
              omega
            refine wp_of e100 c100_53 (rw_iinc (pc' := 56) (z := v1609) (L' := [(6, vI (v1609 + 1)), (5, vI v1650), (4, .ref r1324), (0, .ref r0), (2, vI a2), (3, vI a3)]) rfl rfl rfl rfl ?_)
            refine wp_of e100 c100_56 (rw_goto (p1 := 14) (by decide) ?_)
            exact wp_lc (ks := [6, 5, 4, 0, 2, 3]) (wl_c rfl (wl_c rfl (wl_c rfl (wl_c rfl (wl_c rfl (wl_c rfl wl_n)))))) rfl (by decide) (ih1608 _ (by omega) (v1609 + 1) v1650 ⟨by omega, by omega⟩ ⟨by omega, by omega⟩ (by omega) (by omega) (_q) rfl)
        · show wp _ _ 100 36 [(6, vI v1609), (5, vI v1610), (4, .ref r1324), (0, .ref r0), (2, vI a2), (3, vI a3)] [vI z1634] _ H _
          refine wp_of e100 c100_36 (rw_if_eq (p1 := 53) (p2 := 39) (by decide) rfl ⟨by omega, by omega⟩ (fun c1654 => ?_) (fun c1654 => ?_))
          · have _q : v1610 = ssm (fun i => decide (hb (xwk d (a2).toNat ((xsp d (a2).toNat).getD i (0, 0))) (a3).toNat = 1)) (fun i => xhc e d (a2).toNat i (xlots d).toNat) (v1609 + 1).toNat := by
              rw [← ssm_n (by omega) (decide_eq_false (by omega))]
              assumption
            refine wp_of e100 c100_53 (rw_iinc (pc' := 56) (z := v1609) (L' := [(6, vI (v1609 + 1)), (5, vI v1610), (4, .ref r1324), (0, .ref r0), (2, vI a2), (3, vI a3)]) rfl rfl rfl rfl ?_)
            refine wp_of e100 c100_56 (rw_goto (p1 := 14) (by decide) ?_)
            exact wp_lc (ks := [6, 5, 4, 0, 2, 3]) (wl_c rfl (wl_c rfl (wl_c rfl (wl_c rfl (wl_c rfl (wl_c rfl wl_n)))))) rfl (by decide) (ih1608 _ (by omega) (v1609 + 1) v1610 ⟨by omega, by omega⟩ ⟨by omega, by omega⟩ (by omega) (by omega) (_q) rfl)
          · exfalso
            omega
  exact wp_lc (ks := [6, 5, 4, 0, 1, 2, 3]) (wl_c rfl (wl_c rfl (wl_c rfl (wl_c rfl (wl_c rfl (wl_c rfl wl_n)))))) rfl (by decide) (lp1606 _ 0 0 ⟨by omega, by omega⟩ ⟨by omega, by omega⟩ (by omega) (by omega) (rfl) rfl)
/-! StrikeAwake$Census.sureness(LStrikeAwake$Parish;II)I  -/
abbrev uq_103 (r0 : Nat) (r1 : Nat) (a2 : Int) (a3 : Int) (e : xD) (d : xD) (n : Int) (T : wq_T) (H : wq_H) : Option Value → wq_T → wq_H → Prop := fun r T' H' => T = T' ∧ H = H' ∧ ∃ z : Int, some (vI z) = r ∧ (0 ≤ z ∧ z ≤ 2) ∧ ((((z = 0 ∧ xta e d (a2).toNat (a3).toNat = 0) ∨ (z = 2 ∧ xta e d (a2).toNat (a3).toNat ≠ 0 ∧ xta e d (a2).toNat (a3).toNat = xcn (xwf e d) (xlots d).toNat) ∨ (z = 1 ∧ xta e d (a2).toNat (a3).toNat ≠ 0 ∧ xta e d (a2).toNat (a3).toNat ≠ xcn (xwf e d) (xlots d).toNat))))
set_option maxHeartbeats 4000000 in
theorem u_103 {kt : Nat → Option mc_E} {T : wq_T} {H : wq_H} {r0 : Nat} {r1 : Nat} {a2 : Int} {a3 : Int} {e : xD} {d : xD} {n : Int} (hW : WT T H) (g0 : T.2.2.2 r0 = some 12) (g1 : T.2.2.2 r1 = some 27) (i2 : 0 ≤ a2 ∧ a2 ≤ 5) (i3 : 0 ≤ a3 ∧ a3 ≤ 23) (p0 : ∀ i, i ≠ 13 → e i = d i) (p1 : XW d) (p2 : e 0 3 = d 0 3) (p3 : a2 < d 0 3) (p4 : xlots d ≤ 20000) (hCU_r1 : CU T H r1 e d n) (hHV1_r0 : HV1 T H r0 (d 0 3) (fun p i => xhc e d p i (xlots d).toNat)) (hCEB_r0 : CEB T H r0 e d (xlots d).toNat) : wpc kt 3 103 [.ref r0, .ref r1, vI a2, vI a3] T H (uq_103 r0 r1 a2 a3 e d n T H) := by
  refine wp_enter e103 (Nat.le_of_ble_eq_true rfl) rfl ?_
  show wp _ _ 103 0 [(0, .ref r0), (1, .ref r1), (2, vI a2), (3, vI a3)] [] _ H _
  have u1016 := CU_k hCU_r1
  have b1017 : (-2147483648) ≤ H r0 5 ∧ H r0 5 ≤ 2147483647 := hW.box g0 (n := 10) rfl (by decide) rfl
  have _cb := hCEB_r0.1
  refine wp_of e103 c103_0 (rw_aload_n (pc' := 1) (v := .ref r0) rfl rfl rfl ?_)
  refine wp_of e103 c103_1 (rw_aload_n (pc' := 2) (v := .ref r1) rfl rfl rfl ?_)
  refine wp_of e103 c103_2 (rw_iload_n (pc' := 3) (z := a2) rfl rfl ?_)
  refine wp_of e103 c103_3 (rw_iload_n (pc' := 4) (z := a3) rfl rfl ?_)
  refine wp_of e103 c103_4 (xc_V (pc' := 7) (r := r0) (as := [.ref r1, vI a2, vI a3]) (st := []) (lm_4_126) rfl rfl (Nat.le_of_ble_eq_true rfl) hW g0 sh_12 (by decide) rfl (by decide) (u_100 (e := e) (d := d) (n := n) hW g0 g1 ⟨by omega, by omega⟩ ⟨by omega, by omega⟩ (by assumption) (by assumption) (by omega) (by omega) (by omega) hCU_r1 hHV1_r0) (fun R1018 T1019 H1020 p1021 => ?_))
  obtain ⟨e1022, e1024, z1025, e1023, b1026, p1027⟩ := p1021
  subst e1022
  subst e1023
  subst e1024
  show wp _ _ 103 7 [(0, .ref r0), (1, .ref r1), (2, vI a2), (3, vI a3)] [vI z1025] _ H _
  refine wp_of e103 c103_7 (rw_istore (pc' := 9) (z := z1025) (L' := [(4, vI z1025), (0, .ref r0), (1, .ref r1), (2, vI a2), (3, vI a3)]) rfl rfl rfl ?_)
  refine wp_of e103 c103_9 (rw_iload (pc' := 11) (z := z1025) rfl rfl ?_)
  refine wp_of e103 c103_11 (rw_if_ne (p1 := 16) (p2 := 14) (by decide) rfl ⟨by omega, by omega⟩ (fun c1029 => ?_) (fun c1029 => ?_))
  · refine wp_of e103 c103_16 (rw_iload (pc' := 18) (z := z1025) rfl rfl ?_)
    refine wp_of e103 c103_18 (rw_aload_n (pc' := 19) (v := .ref r0) rfl rfl rfl ?_)
    refine wp_of e103 c103_19 (xg_I (pc' := 22) lf_4_62 hW g0 sh_12 (by decide) (by decide) ty_12_5 rfl rfl (fun b1030 b1031 => ?_))
    refine wp_of e103 c103_22 (rw_icmp_ne (p1 := 29) (p2 := 25) (by decide) rfl ⟨by omega, by omega⟩ ⟨by omega, by omega⟩ (fun c1032 => ?_) (fun c1032 => ?_))
    · refine wp_of e103 c103_29 (rw_iconst (pc' := 30) rfl ?_)
      exact wp_ireturn e103 c103_30 rfl ⟨rfl, rfl, 1, rfl, ⟨by omega, by omega⟩, (by omega)⟩
    · refine wp_of e103 c103_25 (rw_iconst (pc' := 26) rfl ?_)
      refine wp_of e103 c103_26 (rw_goto (p1 := 30) (by decide) ?_)
      exact wp_ireturn e103 c103_30 rfl ⟨rfl, rfl, 2, rfl, ⟨by omega, by omega⟩, (by omega)⟩
  · refine wp_of e103 c103_14 (rw_iconst (pc' := 15) rfl ?_)
    exact wp_ireturn e103 c103_15 rfl ⟨rfl, rfl, 0, rfl, ⟨by omega, by omega⟩, (by omega)⟩
/-! StrikeAwake$Census.hundredthsAwake(LStrikeAwake$Parish;II)I  -/
abbrev uq_106 (r0 : Nat) (r1 : Nat) (a2 : Int) (a3 : Int) (e : xD) (d : xD) (n : Int) (T : wq_T) (H : wq_H) : Option Value → wq_T → wq_H → Prop := fun r T' H' => T = T' ∧ H = H' ∧ ∃ z : Int, some (vI z) = r ∧ ((-2147483648) ≤ z ∧ z ≤ 2147483647) ∧ (((z = (100 * xtw e d (a2).toNat (a3).toNat) / xsW e d (xlots d).toNat)))
set_option maxHeartbeats 4000000 in
theorem u_106 {kt : Nat → Option mc_E} {T : wq_T} {H : wq_H} {r0 : Nat} {r1 : Nat} {a2 : Int} {a3 : Int} {e : xD} {d : xD} {n : Int} (hW : WT T H) (g0 : T.2.2.2 r0 = some 12) (g1 : T.2.2.2 r1 = some 27) (i2 : 0 ≤ a2 ∧ a2 ≤ 5) (i3 : 0 ≤ a3 ∧ a3 ≤ 23) (p0 : ∀ i, i ≠ 13 → e i = d i) (p1 : XW d) (p2 : e 0 3 = d 0 3) (p3 : a2 < d 0 3) (p4 : xlots d ≤ 20000) (p5 : 0 < xsW e d (xlots d).toNat) (hCU_r1 : CU T H r1 e d n) (hHV2_r0 : HV2 T H r0 (d 0 3) (fun p i => xhw e d p i (xlots d).toNat)) (hCEB_r0 : CEB T H r0 e d (xlots d).toNat) : wpc kt 2 106 [.ref r0, .ref r1, vI a2, vI a3] T H (uq_106 r0 r1 a2 a3 e d n T H) := by
  refine wp_enter e106 (Nat.le_of_ble_eq_true rfl) rfl ?_
  show wp _ _ 106 0 [(0, .ref r0), (1, .ref r1), (2, vI a2), (3, vI a3)] [] _ H _
  have u1330 := CU_k hCU_r1
  have b1331 : (-9223372036854775808) ≤ H r0 6 ∧ H r0 6 ≤ 9223372036854775807 := hW.box g0 (n := 10) rfl (by decide) rfl
  have _k := CU_k hCU_r1
  have _xc := p1.2.1
  unfold XC at _xc
  have _d0 := p0 0 (by decide)
  have _e3 : e 0 3 = d 0 3 := by rw [_d0]
  have _e4 : e 0 4 = d 0 4 := by rw [_d0]
  have _e5 : e 0 5 = d 0 5 := by rw [_d0]
  have _nn : (((xlots d).toNat : Nat) : Int) ≤ 20000 := by omega
  have _cb6 := hCEB_r0.2.1
  have _tb := xtw_b (e := e) (d := d) (p := (a2).toNat) (h := (a3).toNat) (by omega)
  have _wb := xsW_b (e := e) (d := d) (by omega) (xlots d).toNat
  refine wp_of e106 c106_0 (rw_aload_n (pc' := 1) (v := .ref r1) rfl rfl rfl ?_)
  refine wp_of e106 c106_1 (xg_R (pc' := 4) lf_4_78 hW g1 sh_27 (by decide) (by decide) ty_27_0 rfl rfl (fun r1332 q1333 g1334 => ?_))
  refine wp_of e106 c106_4 (rw_iload_n (pc' := 5) (z := a2) rfl rfl ?_)
  refine wp_of e106 c106_5 (xa_R (pc' := 6) (by decide) hW g1334 sh_28 (by decide) (ty_28 _) (by omega) (by omega) rfl (fun r1335 q1336 g1337 => ?_))
  have _z := CS_at (hCU_r1).2.1 q1333 q1336 (k := (a2).toNat) (by omega) (by omega)
  have _l := @xsp_len d (a2).toNat (hCU_r1).2.1.1
  have h1338 : PS T H r1335 d (a2).toNat (xsp d (a2).toNat) := _z.1
  have _n := h1338.1
  refine wp_of e106 c106_6 (rw_astore (pc' := 8) (v := .ref r1335) (L' := [(4, .ref r1335), (0, .ref r0), (1, .ref r1), (2, vI a2), (3, vI a3)]) rfl rfl rfl rfl ?_)
  refine wp_of e106 c106_8 (rw_lconst (pc' := 9) (z := 0) rfl rfl ?_)
  refine wp_of e106 c106_9 (rw_lstore (pc' := 11) (z := 0) (L' := [(5, vL 0), (4, .ref r1335), (0, .ref r0), (1, .ref r1), (2, vI a2), (3, vI a3)]) rfl rfl rfl ?_)
  refine wp_of e106 c106_11 (rw_iconst (pc' := 12) rfl ?_)
  refine wp_of e106 c106_12 (rw_istore (pc' := 14) (z := 0) (L' := [(7, vI 0), (5, vL 0), (4, .ref r1335), (0, .ref r0), (1, .ref r1), (2, vI a2), (3, vI a3)]) rfl rfl rfl ?_)
  have lp1617 : ∀ (n1618 : Nat) (v1620 : Int) (v1621 : Int), (0 ≤ v1620 ∧ v1620 ≤ 40) → (0 ≤ v1621 ∧ v1621 ≤ 800000000000) → (v1620 ≤ ((xsp d (a2).toNat).length : Int)) → (v1621 ≤ 20000000000 * v1620) → (v1621 = ssm (fun i => decide (hb (xwk d (a2).toNat ((xsp d (a2).toNat).getD i (0, 0))) (a3).toNat = 1)) (fun i => xhw e d (a2).toNat i (xlots d).toNat) (v1620).toNat) → (40 - v1620).toNat = n1618 → wp kt 1 106 14 [(7, vI v1620), (5, vL v1621), (4, .ref r1335), (0, .ref r0), (2, vI a2), (3, vI a3)] [] T H (uq_106 r0 r1 a2 a3 e d n T H) := by
    intro n1618
    induction n1618 using Nat.strongRecOn with
    | _ n1618 ih1619 =>
      intro v1620 v1621 b1624 b1625 x1627 x1628 x1629 m1626
      refine wp_of e106 c106_14 (rw_iload (pc' := 16) (z := v1620) rfl rfl ?_)
      refine wp_of e106 c106_16 (rw_aload (pc' := 18) (v := .ref r1335) rfl rfl rfl ?_)
      refine wp_of e106 c106_18 (xg_I (pc' := 21) lf_4_116 hW g1337 sh_35 (by decide) (by decide) ty_35_15 rfl rfl (fun b1630 b1631 => ?_))
      refine wp_of e106 c106_21 (rw_icmp_ge (p1 := 59) (p2 := 24) (by decide) rfl ⟨by omega, by omega⟩ ⟨by omega, by omega⟩ (fun c1632 => ?_) (fun c1632 => ?_))
      · have _t : v1621 = xtw e d (a2).toNat (a3).toNat := by
          rw [← xtw_s p1.1 (by omega), show (xsp d (a2).toNat).length = (v1620).toNat by omega]
          assumption
        refine wp_of e106 c106_59 (rw_aload_n (pc' := 60) (v := .ref r0) rfl rfl rfl ?_)
        refine wp_of e106 c106_60 (xg_L (pc' := 63) lf_4_66 hW g0 sh_12 (by decide) (by decide) ty_12_6 rfl rfl (fun b1633 b1634 => ?_))
        refine wp_of e106 c106_63 (rw_lconst (pc' := 64) (z := 0) rfl rfl ?_)
        refine wp_of e106 c106_64 (rw_lcmp (pc' := 65) rfl ⟨by omega, by omega⟩ ⟨by omega, by omega⟩ ?_)
        have b1635 := wq_cmp_b (H r0 6) 0
        refine wp_of e106 c106_65 (rw_if_le (p1 := 83) (p2 := 68) (by decide) rfl ⟨by omega, by omega⟩ (fun c1636 => ?_) (fun c1636 => ?_))
        · refine wp_of e106 c106_83 (rw_iconst (pc' := 84) rfl ?_)
          exfalso
          omega
        · refine wp_of e106 c106_68 (rw_lload (pc' := 70) (z := v1621) rfl rfl ?_)
          refine wp_of e106 c106_70 (rw_ldc2 (pc' := 73) (z := 100) rfl rfl rfl ?_)
          refine wp_of e106 c106_73 (rw_lmul (pc' := 74) rfl ?_)
          refine wp_of e106 c106_74 (rw_aload_n (pc' := 75) (v := .ref r0) rfl rfl rfl ?_)
          refine wp_of e106 c106_75 (xg_L (pc' := 78) lf_4_66 hW g0 sh_12 (by decide) (by decide) ty_12_6 rfl rfl (fun b1637 b1638 => ?_))
          refine wp_of e106 c106_78 (rw_ldiv (pc' := 79) rfl ⟨by omega, by omega⟩ (by omega) ?_)
          obtain ⟨v1639, e1640⟩ : ∃ x : Int, x = wl_div (v1621 * 100) (H r0 6) := ⟨_, rfl⟩
          rw [← e1640]
          have b1641 : 0 ≤ v1639 ∧ v1639 ≤ (v1621 * 100) := by
            rw [e1640]
            rw [wl_div_e ⟨by omega, by omega⟩ ⟨by omega, by omega⟩]; exact ⟨Int.ediv_nonneg (by omega) (by omega), Int.ediv_le_self _ (by omega)⟩
          refine wp_of e106 c106_79 (rw_l2i (pc' := 80) rfl ?_)
          obtain ⟨v1642, e1643⟩ : ∃ x : Int, x = wq_w v1639 := ⟨_, rfl⟩
          rw [← e1643]
          have b1644 : -2147483648 ≤ v1642 ∧ v1642 ≤ 2147483647 := by
            rw [e1643]
            exact wI_w _
          have b1645 : (-2147483648 ≤ v1639 ∧ v1639 ≤ 2147483647) → v1642 = v1639 := by
            rw [e1643]
            exact fun h => wq_w_id h
          refine wp_of e106 c106_80 (rw_goto (p1 := 84) (by decide) ?_)
          have _z : v1642 = (100 * xtw e d (a2).toNat (a3).toNat) / xsW e d (xlots d).toNat := chz _tb (by omega) _t (by omega) (by omega) e1640 (by omega) (by assumption)
          exact wp_ireturn e106 c106_84 rfl ⟨rfl, rfl, v1642, rfl, ⟨by omega, by omega⟩, (_z)⟩
      · refine wp_of e106 c106_24 (rw_aload (pc' := 26) (v := .ref r1335) rfl rfl rfl ?_)
        refine wp_of e106 c106_26 (xg_R (pc' := 29) lf_4_119 hW g1337 sh_35 (by decide) (by decide) ty_35_3 rfl rfl (fun r1646 q1647 g1648 => ?_))
        refine wp_of e106 c106_29 (rw_iload (pc' := 31) (z := v1620) rfl rfl ?_)
        have _a := DA_at (h1338).2.2.2.2.1 q1647 (k := (v1620).toNat) (by omega)
        have _x : xr4 d (a2).toNat (xsp d (a2).toNat) (v1620).toNat = xwk d (a2).toNat ((xsp d (a2).toNat).getD (v1620).toNat (0, 0)) := rfl
        refine wp_of e106 c106_31 (xa_I (so := 0) (pc' := 32) hW g1648 sh_39 (by decide) (ty_39 _) (by omega) (by omega) rfl (fun b1649 b1650 => ?_))
        have _hv := hb_and (b := xwk d (a2).toNat ((xsp d (a2).toNat).getD (v1620).toNat (0, 0))) (h := (a3).toNat) (by have := @xwk_b d (a2).toNat ((xsp d (a2).toNat).getD (v1620).toNat (0, 0)); omega) (by omega)
        rw [Int.toNat_of_nonneg (by omega : 0 ≤ a3), ← (show H r1646 (v1620.toNat) = xwk d (a2).toNat ((xsp d (a2).toNat).getD (v1620).toNat (0, 0)) by omega)] at _hv
        have _hw : hb (xwk d (a2).toNat ((xsp d (a2).toNat).getD (v1620).toNat (0, 0))) (a3).toNat = hb (H r1646 (v1620.toNat)) (a3).toNat := by rw [show H r1646 (v1620.toNat) = xwk d (a2).toNat ((xsp d (a2).toNat).getD (v1620).toNat (0, 0)) by omega]
        have _hc := @hb_b (H r1646 (v1620.toNat)) (a3).toNat
        refine wp_of e106 c106_32 (rw_iload_n (pc' := 33) (z := a3) rfl rfl ?_)
        refine wp_of e106 c106_33 (xc_S (pc' := 36) (as := [vI (H r1646 (v1620.toNat)), vI a3]) (st := []) (lm_4_122) rfl rfl (Nat.le_of_ble_eq_true rfl) rfl (by decide) (u_36  hW ⟨by omega, by omega⟩ ⟨by omega, by omega⟩) (fun R1651 T1652 H1653 p1654 => ?_))
        obtain ⟨e1655, e1657, z1658, e1656, b1659, p1660⟩ := p1654
        subst e1655
        subst e1656
        subst e1657
        rcases p1660 with ⟨a1661, a1662⟩ | ⟨a1663, a1664⟩
        · show wp _ _ 106 36 [(7, vI v1620), (5, vL v1621), (4, .ref r1335), (0, .ref r0), (2, vI a2), (3, vI a3)] [vI z1658] _ H _
          refine wp_of e106 c106_36 (rw_if_eq (p1 := 53) (p2 := 39) (by decide) rfl ⟨by omega, by omega⟩ (fun c1665 => ?_) (fun c1665 => ?_))
          · exfalso
            omega
          · refine wp_of e106 c106_39 (rw_lload (pc' := 41) (z := v1621) rfl rfl ?_)
            refine wp_of e106 c106_41 (rw_aload_n (pc' := 42) (v := .ref r0) rfl rfl rfl ?_)
            refine wp_of e106 c106_42 (xg_R (pc' := 45) lf_4_22 hW g0 sh_12 (by decide) (by decide) ty_12_2 rfl rfl (fun r1666 q1667 g1668 => ?_))
            refine wp_of e106 c106_45 (rw_iload_n (pc' := 46) (z := a2) rfl rfl ?_)
            refine wp_of e106 c106_46 (xa_R (pc' := 47) (by decide) hW g1668 sh_16 (by decide) (ty_16 _) (by omega) (by omega) rfl (fun r1669 q1670 g1671 => ?_))
            refine wp_of e106 c106_47 (rw_iload (pc' := 49) (z := v1620) rfl rfl ?_)
            have _hl : H r1669 (v1620).toNat = xhw e d (a2).toNat (v1620).toNat (xlots d).toNat := hHV2_r0 _ _ (a2).toNat (v1620).toNat q1667 (by omega) (by omega) (by omega) q1670
            have _hb := xhw_b (N := (xlots d).toNat) (e := e) (d := d) (p := (a2).toNat) (i := (v1620).toNat) (by omega)
            refine wp_of e106 c106_49 (xa_L (pc' := 50) hW g1671 sh_17 (by decide) (ty_17 _) (by omega) (by omega) rfl (fun b1672 b1673 => ?_))
            refine wp_of e106 c106_50 (rw_laddw (pc' := 51) rfl ?_)
            obtain ⟨v1674, e1675⟩ : ∃ x : Int, x = wl_w (v1621 + (H r1669 (v1620.toNat))) := ⟨_, rfl⟩
            rw [← e1675]
            have b1676 : -9223372036854775808 ≤ v1674 ∧ v1674 ≤ 9223372036854775807 := by
              rw [e1675]
              exact wL_w _
            have b1677 : (-9223372036854775808 ≤ v1621 + (H r1669 (v1620.toNat)) ∧ v1621 + (H r1669 (v1620.toNat)) ≤ 9223372036854775807) → v1674 = v1621 + (H r1669 (v1620.toNat)) := fun h => by rw [e1675]; exact wl_w_id h
            refine wp_of e106 c106_51 (rw_lstore (pc' := 53) (z := v1674) (L' := [(5, vL v1674), (7, vI v1620), (4, .ref r1335), (0, .ref r0), (2, vI a2), (3, vI a3)]) rfl rfl rfl ?_)
            have _q : v1674 = ssm (fun i => decide (hb (xwk d (a2).toNat ((xsp d (a2).toNat).getD i (0, 0))) (a3).toNat = 1)) (fun i => xhw e d (a2).toNat i (xlots d).toNat) (v1620 + 1).toNat := by
              rw [← ssm_y (z := H r1669 (v1620).toNat) (by omega) (decide_eq_true (by omega)) (by omega), ← ‹v1621 = ssm (fun i => decide (hb (xwk d (a2).toNat ((xsp d (a2).toNat).getD i (0, 0))) (a3).toNat = 1)) (fun i => xhw e d (a2).toNat i (xlots d).toNat) (v1620).toNat›]
              omega
            refine wp_of e106 c106_53 (rw_iinc (pc' := 56) (z := v1620) (L' := [(7, vI (v1620 + 1)), (5, vL v1674), (4, .ref r1335), (0, .ref r0), (2, vI a2), (3, vI a3)]) rfl rfl rfl rfl ?_)
            refine wp_of e106 c106_56 (rw_goto (p1 := 14) (by decide) ?_)
            exact wp_lc (ks := [7, 5, 4, 0, 2, 3]) (wl_c rfl (wl_c rfl (wl_c rfl (wl_c rfl (wl_c rfl (wl_c rfl wl_n)))))) rfl (by decide) (ih1619 _ (by omega) (v1620 + 1) v1674 ⟨by omega, by omega⟩ ⟨by omega, by omega⟩ (by omega) (by omega) (_q) rfl)
        · show wp _ _ 106 36 [(7, vI v1620), (5, vL v1621), (4, .ref r1335), (0, .ref r0), (2, vI a2), (3, vI a3)] [vI z1658] _ H _
          refine wp_of e106 c106_36 (rw_if_eq (p1 := 53) (p2 := 39) (by decide) rfl ⟨by omega, by omega⟩ (fun c1678 => ?_) (fun c1678 => ?_))
          · have _q : v1621 = ssm (fun i => decide (hb (xwk d (a2).toNat ((xsp d (a2).toNat).getD i (0, 0))) (a3).toNat = 1)) (fun i => xhw e d (a2).toNat i (xlots d).toNat) (v1620 + 1).toNat := by
              rw [← ssm_n (by omega) (decide_eq_false (by omega))]
              assumption
            refine wp_of e106 c106_53 (rw_iinc (pc' := 56) (z := v1620) (L' := [(7, vI (v1620 + 1)), (5, vL v1621), (4, .ref r1335), (0, .ref r0), (2, vI a2), (3, vI a3)]) rfl rfl rfl rfl ?_)
            refine wp_of e106 c106_56 (rw_goto (p1 := 14) (by decide) ?_)
            exact wp_lc (ks := [7, 5, 4, 0, 2, 3]) (wl_c rfl (wl_c rfl (wl_c rfl (wl_c rfl (wl_c rfl (wl_c rfl wl_n)))))) rfl (by decide) (ih1619 _ (by omega) (v1620 + 1) v1621 ⟨by omega, by omega⟩ ⟨by omega, by omega⟩ (by omega) (by omega) (_q) rfl)
          · exfalso
            omega
  exact wp_lc (ks := [7, 5, 4, 0, 1, 2, 3]) (wl_c rfl (wl_c rfl (wl_c rfl (wl_c rfl (wl_c rfl (wl_c rfl wl_n)))))) rfl (by decide) (lp1617 _ 0 0 ⟨by omega, by omega⟩ ⟨by omega, by omega⟩ (by omega) (by omega) (rfl) rfl)
/-! StrikeAwake.barOfWorlds(Z)I  -/
abbrev uq_83 (r0 : Nat) (a1 : Int) (cu : Nat) (wa : Nat) (ce : Nat) (e : xD) (d : xD) (n : Int) (T : wq_T) (H : wq_H) : Option Value → wq_T → wq_H → Prop := fun r T' H' => T = T' ∧ WT T H' ∧ wfr [(12, 5), (12, 6), (12, 7), (12, 8), (12, 9), (6, 5), (8, 999), (10, 999), (15, 999), (9, 999), (18, 999), (19, 999), (7, 999), (11, 999), (17, 999), (13, 999)] T H H' ∧ ∃ z : Int, some (vI z) = r ∧ (0 ≤ z ∧ z ≤ 6) ∧ (((z = 0) ∧ (a1 = 1) ∧ (n ≤ 20000) ∧ CEN T H' ce e d ∧ CEB T H' ce e d (xlots d).toNat ∧ CEX T H' ce e d (xlots d).toNat) ∨ ((1 ≤ z ∧ z ≤ 6) ∧ (a1 = 0 ∨ 20000 < n) ∧ CEN T H' ce e d))
set_option maxHeartbeats 4000000 in
theorem u_83 {kt : Nat → Option mc_E} {T : wq_T} {H : wq_H} {r0 : Nat} {a1 : Int} {cu : Nat} {wa : Nat} {ce : Nat} {e : xD} {d : xD} {n : Int} (hW : WT T H) (g0 : T.2.2.2 r0 = some 1) (i1 : 0 ≤ a1 ∧ a1 ≤ 1) (qcu : H r0 6 = (cu : Int)) (gcu : T.2.2.2 cu = some 27) (qwa : H r0 2 = (wa : Int)) (gwa : T.2.2.2 wa = some 6) (qce : H r0 3 = (ce : Int)) (gce : T.2.2.2 ce = some 12) (p0 : ∀ i, i ≠ 13 → e i = d i) (p1 : XW d) (p2 : e 0 3 = d 0 3) (p3 : e 0 0 = d 0 0) (p4 : a1 = 0 ∨ n = xlots d) (hCU_cu : CU T H cu e d n) (hCEN_ce : CEN T H ce e d) (hHDR_ce : HDR T H ce ) : wpc kt 5 83 [.ref r0, vI a1] T H (uq_83 r0 a1 cu wa ce e d n T H) := by
  refine wp_enter e83 (Nat.le_of_ble_eq_true rfl) rfl ?_
  have f0 : wfr [(12, 5), (12, 6), (12, 7), (12, 8), (12, 9), (6, 5), (8, 999), (10, 999), (15, 999), (9, 999), (18, 999), (19, 999), (7, 999), (11, 999), (17, 999), (13, 999)] T H H := wfr.rf
  show wp _ _ 83 0 [(0, .ref r0), (1, vI a1)] [] _ H _
  have u1032 := CU_k hCU_cu
  refine wp_of e83 c83_0 (rw_aload_n (pc' := 1) (v := .ref r0) rfl rfl rfl ?_)
  refine wp_of e83 c83_1 (rw_iload_n (pc' := 2) (z := a1) rfl rfl ?_)
  refine wp_of e83 c83_2 (xc_V (pc' := 5) (r := r0) (as := [vI a1]) (st := []) (lm_0_245) rfl rfl (Nat.le_of_ble_eq_true rfl) hW g0 sh_1 (by decide) rfl (by decide) (u_84 (e := e) (d := d) (n := n) hW g0 ⟨by omega, by omega⟩ qcu gcu hCU_cu) (fun R1033 T1034 H1035 p1036 => ?_))
  obtain ⟨e1037, e1039, z1040, e1038, b1041, p1042⟩ := p1036
  subst e1037
  subst e1038
  subst e1039
  rcases p1042 with ⟨a1043, a1044, a1045⟩ | ⟨a1046, a1047⟩
  · show wp _ _ 83 5 [(0, .ref r0), (1, vI a1)] [vI z1040] _ H _
    refine wp_of e83 c83_5 (rw_istore_n (pc' := 6) (z := z1040) (L' := [(2, vI z1040), (0, .ref r0), (1, vI a1)]) rfl rfl rfl ?_)
    refine wp_of e83 c83_6 (rw_iload_n (pc' := 7) (z := z1040) rfl rfl ?_)
    refine wp_of e83 c83_7 (rw_if_ne (p1 := 25) (p2 := 10) (by decide) rfl ⟨by omega, by omega⟩ (fun c1048 => ?_) (fun c1048 => ?_))
    · exfalso
      omega
    · refine wp_of e83 c83_10 (rw_aload_n (pc' := 11) (v := .ref r0) rfl rfl rfl ?_)
      refine wp_of e83 c83_11 (xg_K (pc' := 14) lf_0_30 hW g0 sh_1 (by decide) (by decide) rfl qce rfl ?_)
      refine wp_of e83 c83_14 (rw_aload_n (pc' := 15) (v := .ref r0) rfl rfl rfl ?_)
      refine wp_of e83 c83_15 (xg_K (pc' := 18) lf_0_51 hW g0 sh_1 (by decide) (by decide) rfl qcu rfl ?_)
      refine wp_of e83 c83_18 (rw_aload_n (pc' := 19) (v := .ref r0) rfl rfl rfl ?_)
      refine wp_of e83 c83_19 (xg_K (pc' := 22) lf_0_23 hW g0 sh_1 (by decide) (by decide) rfl qwa rfl ?_)
      refine wp_of e83 c83_22 (xc_V (pc' := 25) (r := ce) (as := [.ref cu, .ref wa]) (st := []) (lm_0_254) rfl rfl (Nat.le_of_ble_eq_true rfl) hW gce sh_12 (by decide) rfl (by decide) (u_85 (e := e) (d := d) (n := n) hW gce gcu gwa (by assumption) (by assumption) (by omega) (by omega) (by omega) (by omega) hCU_cu hCEN_ce hHDR_ce) (fun R1049 T1050 H1051 p1052 => ?_))
      obtain ⟨e1053, w1055, f1056, e1054, p1057⟩ := p1052
      subst e1053
      subst e1054
      obtain ⟨a1058, a1059, a1060, a1061⟩ := p1057
      have f1062 := f0.tr f1056 rfl
      show wp _ _ 83 25 [(2, vI z1040), (0, .ref r0), (1, vI a1)] [] _ H1051 _
      refine wp_of e83 c83_25 (rw_iload_n (pc' := 26) (z := z1040) rfl rfl ?_)
      exact wp_ireturn e83 c83_26 rfl ⟨rfl, w1055, f1062, z1040, rfl, ⟨by omega, by omega⟩, (Or.inl ⟨by omega, by omega, by omega, a1061, a1059, a1060⟩)⟩
  · show wp _ _ 83 5 [(0, .ref r0), (1, vI a1)] [vI z1040] _ H _
    refine wp_of e83 c83_5 (rw_istore_n (pc' := 6) (z := z1040) (L' := [(2, vI z1040), (0, .ref r0), (1, vI a1)]) rfl rfl rfl ?_)
    refine wp_of e83 c83_6 (rw_iload_n (pc' := 7) (z := z1040) rfl rfl ?_)
    refine wp_of e83 c83_7 (rw_if_ne (p1 := 25) (p2 := 10) (by decide) rfl ⟨by omega, by omega⟩ (fun c1063 => ?_) (fun c1063 => ?_))
    · refine wp_of e83 c83_25 (rw_iload_n (pc' := 26) (z := z1040) rfl rfl ?_)
      exact wp_ireturn e83 c83_26 rfl ⟨rfl, hW, f0, z1040, rfl, ⟨by omega, by omega⟩, (Or.inr ⟨by omega, by omega, hCEN_ce⟩)⟩
    · exfalso
      omega
/-! StrikeAwake.barOfSome(Z)I  -/
abbrev uq_102 (r0 : Nat) (a1 : Int) (cu : Nat) (wa : Nat) (ce : Nat) (e : xD) (d : xD) (n : Int) (T : wq_T) (H : wq_H) : Option Value → wq_T → wq_H → Prop := fun r T' H' => T = T' ∧ WT T H' ∧ wfr [(12, 5), (12, 6), (12, 7), (12, 8), (12, 9), (6, 5), (8, 999), (10, 999), (15, 999), (9, 999), (18, 999), (19, 999), (7, 999), (11, 999), (17, 999), (13, 999)] T H H' ∧ ∃ z : Int, some (vI z) = r ∧ (0 ≤ z ∧ z ≤ 6) ∧ (((z = 0) ∧ (a1 = 1) ∧ (n ≤ 20000) ∧ (0 < xcn (xwf e d) (xlots d).toNat) ∧ CEN T H' ce e d ∧ CEB T H' ce e d (xlots d).toNat ∧ CEX T H' ce e d (xlots d).toNat) ∨ ((1 ≤ z ∧ z ≤ 6) ∧ (a1 = 0 ∨ 20000 < n ∨ xcn (xwf e d) (xlots d).toNat ≤ 0) ∧ CEN T H' ce e d))
set_option maxHeartbeats 4000000 in
theorem u_102 {kt : Nat → Option mc_E} {T : wq_T} {H : wq_H} {r0 : Nat} {a1 : Int} {cu : Nat} {wa : Nat} {ce : Nat} {e : xD} {d : xD} {n : Int} (hW : WT T H) (g0 : T.2.2.2 r0 = some 1) (i1 : 0 ≤ a1 ∧ a1 ≤ 1) (qcu : H r0 6 = (cu : Int)) (gcu : T.2.2.2 cu = some 27) (qwa : H r0 2 = (wa : Int)) (gwa : T.2.2.2 wa = some 6) (qce : H r0 3 = (ce : Int)) (gce : T.2.2.2 ce = some 12) (p0 : ∀ i, i ≠ 13 → e i = d i) (p1 : XW d) (p2 : e 0 3 = d 0 3) (p3 : e 0 0 = d 0 0) (p4 : a1 = 0 ∨ n = xlots d) (hCU_cu : CU T H cu e d n) (hCEN_ce : CEN T H ce e d) (hHDR_ce : HDR T H ce ) : wpc kt 6 102 [.ref r0, vI a1] T H (uq_102 r0 a1 cu wa ce e d n T H) := by
  refine wp_enter e102 (Nat.le_of_ble_eq_true rfl) rfl ?_
  have f0 : wfr [(12, 5), (12, 6), (12, 7), (12, 8), (12, 9), (6, 5), (8, 999), (10, 999), (15, 999), (9, 999), (18, 999), (19, 999), (7, 999), (11, 999), (17, 999), (13, 999)] T H H := wfr.rf
  show wp _ _ 102 0 [(0, .ref r0), (1, vI a1)] [] _ H _
  have u1030 := CU_k hCU_cu
  refine wp_of e102 c102_0 (rw_aload_n (pc' := 1) (v := .ref r0) rfl rfl rfl ?_)
  refine wp_of e102 c102_1 (rw_iload_n (pc' := 2) (z := a1) rfl rfl ?_)
  refine wp_of e102 c102_2 (xc_V (pc' := 5) (r := r0) (as := [vI a1]) (st := []) (lm_0_174) rfl rfl (Nat.le_of_ble_eq_true rfl) hW g0 sh_1 (by decide) rfl (by decide) (u_83 (e := e) (d := d) (n := n) hW g0 ⟨by omega, by omega⟩ qcu gcu qwa gwa qce gce (by assumption) (by assumption) (by omega) (by omega) (by omega) hCU_cu hCEN_ce hHDR_ce) (fun R1031 T1032 H1033 p1034 => ?_))
  obtain ⟨e1035, w1037, f1038, z1039, e1036, b1040, p1041⟩ := p1034
  subst e1035
  subst e1036
  rcases p1041 with ⟨a1042, a1043, a1044, a1045, a1046, a1047⟩ | ⟨a1048, a1049, a1050⟩
  · have f1051 := f0.tr f1038 rfl
    show wp _ _ 102 5 [(0, .ref r0), (1, vI a1)] [vI z1039] _ H1033 _
    refine wp_of e102 c102_5 (rw_istore_n (pc' := 6) (z := z1039) (L' := [(2, vI z1039), (0, .ref r0), (1, vI a1)]) rfl rfl rfl ?_)
    refine wp_of e102 c102_6 (rw_iload_n (pc' := 7) (z := z1039) rfl rfl ?_)
    refine wp_of e102 c102_7 (rw_if_ne (p1 := 25) (p2 := 10) (by decide) rfl ⟨by omega, by omega⟩ (fun c1052 => ?_) (fun c1052 => ?_))
    · exfalso
      omega
    · have _cbb := a1046
      have _cb := _cbb.1
      have _cb6 := _cbb.2.1
      have _cb8 := _cbb.2.2.1
      have _cb7 := _cbb.2.2.2.1
      have h1053 : CEM T H1033 ce (xwf e d) (xlots d).toNat := _cbb.2.2.2.2
      refine wp_of e102 c102_10 (rw_aload_n (pc' := 11) (v := .ref r0) rfl rfl rfl ?_)
      have k1054 : H1033 r0 3 = H r0 3 := (f1038 r0 3 _ g0 rfl)
      have q1055 : H1033 r0 3 = (ce : Int) := k1054.trans qce
      refine wp_of e102 c102_11 (xg_K (pc' := 14) lf_0_30 w1037 g0 sh_1 (by decide) (by decide) rfl q1055 rfl ?_)
      refine wp_of e102 c102_14 (xg_I (pc' := 17) lf_0_177 w1037 gce sh_12 (by decide) (by decide) ty_12_5 rfl rfl (fun b1056 b1057 => ?_))
      refine wp_of e102 c102_17 (rw_if_ne (p1 := 25) (p2 := 20) (by decide) rfl ⟨by omega, by omega⟩ (fun c1058 => ?_) (fun c1058 => ?_))
      · refine wp_of e102 c102_25 (rw_iload_n (pc' := 26) (z := z1039) rfl rfl ?_)
        exact wp_ireturn e102 c102_26 rfl ⟨rfl, w1037, f1051, z1039, rfl, ⟨by omega, by omega⟩, (Or.inl ⟨by omega, by omega, by omega, by omega, a1045, a1046, a1047⟩)⟩
      · refine wp_of e102 c102_20 (rw_bipush (pc' := 22) (z := 6) rfl (by decide) ?_)
        refine wp_of e102 c102_22 (rw_goto (p1 := 26) (by decide) ?_)
        exact wp_ireturn e102 c102_26 rfl ⟨rfl, w1037, f1051, 6, rfl, ⟨by omega, by omega⟩, (Or.inr ⟨by omega, by omega, a1045⟩)⟩
  · have f1059 := f0.tr f1038 rfl
    show wp _ _ 102 5 [(0, .ref r0), (1, vI a1)] [vI z1039] _ H1033 _
    refine wp_of e102 c102_5 (rw_istore_n (pc' := 6) (z := z1039) (L' := [(2, vI z1039), (0, .ref r0), (1, vI a1)]) rfl rfl rfl ?_)
    refine wp_of e102 c102_6 (rw_iload_n (pc' := 7) (z := z1039) rfl rfl ?_)
    refine wp_of e102 c102_7 (rw_if_ne (p1 := 25) (p2 := 10) (by decide) rfl ⟨by omega, by omega⟩ (fun c1060 => ?_) (fun c1060 => ?_))
    · refine wp_of e102 c102_25 (rw_iload_n (pc' := 26) (z := z1039) rfl rfl ?_)
      exact wp_ireturn e102 c102_26 rfl ⟨rfl, w1037, f1059, z1039, rfl, ⟨by omega, by omega⟩, (Or.inr ⟨by omega, by omega, a1050⟩)⟩
    · exfalso
      omega
/-! StrikeAwake.barOfAsking(Z)I  -/
abbrev uq_121 (r0 : Nat) (a1 : Int) (cu : Nat) (wa : Nat) (ce : Nat) (e : xD) (d : xD) (n : Int) (T : wq_T) (H : wq_H) : Option Value → wq_T → wq_H → Prop := fun r T' H' => T = T' ∧ WT T H' ∧ wfr [(12, 5), (12, 6), (12, 7), (12, 8), (12, 9), (6, 5), (8, 999), (10, 999), (15, 999), (9, 999), (18, 999), (19, 999), (7, 999), (11, 999), (17, 999), (13, 999)] T H H' ∧ ∃ z : Int, some (vI z) = r ∧ (0 ≤ z ∧ z ≤ 6) ∧ (((z = 0) ∧ (a1 = 1) ∧ CEN T H' ce e d) ∨ ((1 ≤ z ∧ z ≤ 6) ∧ CEN T H' ce e d))
set_option maxHeartbeats 4000000 in
theorem u_121 {kt : Nat → Option mc_E} {T : wq_T} {H : wq_H} {r0 : Nat} {a1 : Int} {cu : Nat} {wa : Nat} {ce : Nat} {e : xD} {d : xD} {n : Int} (hW : WT T H) (g0 : T.2.2.2 r0 = some 1) (i1 : 0 ≤ a1 ∧ a1 ≤ 1) (qcu : H r0 6 = (cu : Int)) (gcu : T.2.2.2 cu = some 27) (qwa : H r0 2 = (wa : Int)) (gwa : T.2.2.2 wa = some 6) (qce : H r0 3 = (ce : Int)) (gce : T.2.2.2 ce = some 12) (p0 : ∀ i, i ≠ 13 → e i = d i) (p1 : XW d) (p2 : e 0 3 = d 0 3) (p3 : e 0 0 = d 0 0) (p4 : a1 = 0 ∨ n = xlots d) (hCU_cu : CU T H cu e d n) (hCEN_ce : CEN T H ce e d) (hHDR_ce : HDR T H ce ) : wpc kt 6 121 [.ref r0, vI a1] T H (uq_121 r0 a1 cu wa ce e d n T H) := by
  refine wp_enter e121 (Nat.le_of_ble_eq_true rfl) rfl ?_
  have f0 : wfr [(12, 5), (12, 6), (12, 7), (12, 8), (12, 9), (6, 5), (8, 999), (10, 999), (15, 999), (9, 999), (18, 999), (19, 999), (7, 999), (11, 999), (17, 999), (13, 999)] T H H := wfr.rf
  show wp _ _ 121 0 [(0, .ref r0), (1, vI a1)] [] _ H _
  have u1033 := CU_k hCU_cu
  refine wp_of e121 c121_0 (rw_aload_n (pc' := 1) (v := .ref r0) rfl rfl rfl ?_)
  refine wp_of e121 c121_1 (rw_iload_n (pc' := 2) (z := a1) rfl rfl ?_)
  refine wp_of e121 c121_2 (xc_V (pc' := 5) (r := r0) (as := [vI a1]) (st := []) (lm_0_174) rfl rfl (Nat.le_of_ble_eq_true rfl) hW g0 sh_1 (by decide) rfl (by decide) (u_83 (e := e) (d := d) (n := n) hW g0 ⟨by omega, by omega⟩ qcu gcu qwa gwa qce gce (by assumption) (by assumption) (by omega) (by omega) (by omega) hCU_cu hCEN_ce hHDR_ce) (fun R1034 T1035 H1036 p1037 => ?_))
  obtain ⟨e1038, w1040, f1041, z1042, e1039, b1043, p1044⟩ := p1037
  subst e1038
  subst e1039
  rcases p1044 with ⟨a1045, a1046, a1047, a1048, a1049, a1050⟩ | ⟨a1051, a1052, a1053⟩
  · have f1054 := f0.tr f1041 rfl
    show wp _ _ 121 5 [(0, .ref r0), (1, vI a1)] [vI z1042] _ H1036 _
    refine wp_of e121 c121_5 (rw_istore_n (pc' := 6) (z := z1042) (L' := [(2, vI z1042), (0, .ref r0), (1, vI a1)]) rfl rfl rfl ?_)
    refine wp_of e121 c121_6 (rw_iload_n (pc' := 7) (z := z1042) rfl rfl ?_)
    refine wp_of e121 c121_7 (rw_if_eq (p1 := 12) (p2 := 10) (by decide) rfl ⟨by omega, by omega⟩ (fun c1055 => ?_) (fun c1055 => ?_))
    · refine wp_of e121 c121_12 (rw_aload_n (pc' := 13) (v := .ref r0) rfl rfl rfl ?_)
      have k1056 : H1036 r0 3 = H r0 3 := (f1041 r0 3 _ g0 rfl)
      have q1057 : H1036 r0 3 = (ce : Int) := k1056.trans qce
      refine wp_of e121 c121_13 (xg_K (pc' := 16) lf_0_30 w1040 g0 sh_1 (by decide) (by decide) rfl q1057 rfl ?_)
      refine wp_of e121 c121_16 (xg_I (pc' := 19) lf_0_177 w1040 gce sh_12 (by decide) (by decide) ty_12_5 rfl rfl (fun b1058 b1059 => ?_))
      refine wp_of e121 c121_19 (rw_sipush (pc' := 22) (z := 400) rfl (by decide) ?_)
      refine wp_of e121 c121_22 (rw_icmp_le (p1 := 27) (p2 := 25) (by decide) rfl ⟨by omega, by omega⟩ ⟨by omega, by omega⟩ (fun c1060 => ?_) (fun c1060 => ?_))
      · refine wp_of e121 c121_27 (rw_aload_n (pc' := 28) (v := .ref r0) rfl rfl rfl ?_)
        refine wp_of e121 c121_28 (xg_K (pc' := 31) lf_0_30 w1040 g0 sh_1 (by decide) (by decide) rfl q1057 rfl ?_)
        refine wp_of e121 c121_31 (xg_I (pc' := 34) lf_0_177 w1040 gce sh_12 (by decide) (by decide) ty_12_5 rfl rfl (fun b1061 b1062 => ?_))
        refine wp_of e121 c121_34 (rw_if_ne (p1 := 42) (p2 := 37) (by decide) rfl ⟨by omega, by omega⟩ (fun c1063 => ?_) (fun c1063 => ?_))
        · refine wp_of e121 c121_42 (rw_iconst (pc' := 43) rfl ?_)
          exact wp_ireturn e121 c121_43 rfl ⟨rfl, w1040, f1054, 0, rfl, ⟨by omega, by omega⟩, (Or.inl ⟨by omega, by omega, a1048⟩)⟩
        · refine wp_of e121 c121_37 (rw_bipush (pc' := 39) (z := 6) rfl (by decide) ?_)
          refine wp_of e121 c121_39 (rw_goto (p1 := 43) (by decide) ?_)
          exact wp_ireturn e121 c121_43 rfl ⟨rfl, w1040, f1054, 6, rfl, ⟨by omega, by omega⟩, (Or.inr ⟨by omega, a1048⟩)⟩
      · refine wp_of e121 c121_25 (rw_iconst (pc' := 26) rfl ?_)
        exact wp_ireturn e121 c121_26 rfl ⟨rfl, w1040, f1054, 3, rfl, ⟨by omega, by omega⟩, (Or.inr ⟨by omega, a1048⟩)⟩
    · exfalso
      omega
  · have f1064 := f0.tr f1041 rfl
    show wp _ _ 121 5 [(0, .ref r0), (1, vI a1)] [vI z1042] _ H1036 _
    refine wp_of e121 c121_5 (rw_istore_n (pc' := 6) (z := z1042) (L' := [(2, vI z1042), (0, .ref r0), (1, vI a1)]) rfl rfl rfl ?_)
    refine wp_of e121 c121_6 (rw_iload_n (pc' := 7) (z := z1042) rfl rfl ?_)
    refine wp_of e121 c121_7 (rw_if_eq (p1 := 12) (p2 := 10) (by decide) rfl ⟨by omega, by omega⟩ (fun c1065 => ?_) (fun c1065 => ?_))
    · exfalso
      omega
    · refine wp_of e121 c121_10 (rw_iload_n (pc' := 11) (z := z1042) rfl rfl ?_)
      exact wp_ireturn e121 c121_11 rfl ⟨rfl, w1040, f1064, z1042, rfl, ⟨by omega, by omega⟩, (Or.inr ⟨by omega, a1053⟩)⟩
/-! StrikeAwake.worlds()I  -/
abbrev uq_82 (r0 : Nat) (cu : Nat) (wa : Nat) (ce : Nat) (e : xD) (d : xD) (n : Int) (T : wq_T) (H : wq_H) : Option Value → wq_T → wq_H → Prop := fun r T' H' => T = T' ∧ WT T H' ∧ wfr [(12, 5), (12, 6), (12, 7), (12, 8), (12, 9), (1, 10), (6, 5), (8, 999), (10, 999), (15, 999), (9, 999), (18, 999), (19, 999), (7, 999), (11, 999), (17, 999), (13, 999)] T H H' ∧ ∃ z : Int, some (vI z) = r ∧ ((-2147483648) ≤ z ∧ z ≤ 2147483647) ∧ (((z = -1) ∧ (H r0 8 = 0 ∨ 20000 < n) ∧ CEN T H' ce e d) ∨ ((H r0 8 ≠ 0 ∧ n ≤ 20000) ∧ (z = xcn (xwf e d) (xlots d).toNat) ∧ CEN T H' ce e d))
set_option maxHeartbeats 4000000 in
theorem u_82 {kt : Nat → Option mc_E} {T : wq_T} {H : wq_H} {r0 : Nat} {cu : Nat} {wa : Nat} {ce : Nat} {e : xD} {d : xD} {n : Int} (hW : WT T H) (g0 : T.2.2.2 r0 = some 1) (qcu : H r0 6 = (cu : Int)) (gcu : T.2.2.2 cu = some 27) (qwa : H r0 2 = (wa : Int)) (gwa : T.2.2.2 wa = some 6) (qce : H r0 3 = (ce : Int)) (gce : T.2.2.2 ce = some 12) (p0 : ∀ i, i ≠ 13 → e i = d i) (p1 : XW d) (p2 : e 0 3 = d 0 3) (p3 : e 0 0 = d 0 0) (p4 : H r0 8 = 0 ∨ n = xlots d) (p5 : H r0 8 ≠ 0 ∨ (d 0 3 = 0 ∧ d 0 0 = 0)) (hCU_cu : CU T H cu e d n) (hCEN_ce : CEN T H ce e d) (hHDR_ce : HDR T H ce ) : wpc kt 6 82 [.ref r0] T H (uq_82 r0 cu wa ce e d n T H) := by
  refine wp_enter e82 (Nat.le_of_ble_eq_true rfl) rfl ?_
  have f0 : wfr [(12, 5), (12, 6), (12, 7), (12, 8), (12, 9), (1, 10), (6, 5), (8, 999), (10, 999), (15, 999), (9, 999), (18, 999), (19, 999), (7, 999), (11, 999), (17, 999), (13, 999)] T H H := wfr.rf
  show wp _ _ 82 0 [(0, .ref r0)] [] _ H _
  have u1059 := CU_k hCU_cu
  have b1060 : 0 ≤ H r0 8 ∧ H r0 8 ≤ 1 := hW.box g0 (n := 13) rfl (by decide) rfl
  refine wp_of e82 c82_0 (rw_aload_n (pc' := 1) (v := .ref r0) rfl rfl rfl ?_)
  refine wp_of e82 c82_1 (rw_aload_n (pc' := 2) (v := .ref r0) rfl rfl rfl ?_)
  refine wp_of e82 c82_2 (xg_I (pc' := 5) lf_0_58 hW g0 sh_1 (by decide) (by decide) ty_1_8 rfl rfl (fun b1061 b1062 => ?_))
  refine wp_of e82 c82_5 (xc_V (pc' := 8) (r := r0) (as := [vI (H r0 8)]) (st := []) (lm_0_174) rfl rfl (Nat.le_of_ble_eq_true rfl) hW g0 sh_1 (by decide) rfl (by decide) (u_83 (e := e) (d := d) (n := n) hW g0 ⟨by omega, by omega⟩ qcu gcu qwa gwa qce gce (by assumption) (by assumption) (by omega) (by omega) (by omega) hCU_cu hCEN_ce hHDR_ce) (fun R1063 T1064 H1065 p1066 => ?_))
  obtain ⟨e1067, w1069, f1070, z1071, e1068, b1072, p1073⟩ := p1066
  subst e1067
  subst e1068
  rcases p1073 with ⟨a1074, a1075, a1076, a1077, a1078, a1079⟩ | ⟨a1080, a1081, a1082⟩
  · have f1083 := f0.tr f1070 rfl
    show wp _ _ 82 8 [(0, .ref r0)] [vI z1071] _ H1065 _
    refine wp_of e82 c82_8 (rw_istore_n (pc' := 9) (z := z1071) (L' := [(1, vI z1071), (0, .ref r0)]) rfl rfl rfl ?_)
    refine wp_of e82 c82_9 (rw_iload_n (pc' := 10) (z := z1071) rfl rfl ?_)
    refine wp_of e82 c82_10 (rw_if_eq (p1 := 19) (p2 := 13) (by decide) rfl ⟨by omega, by omega⟩ (fun c1084 => ?_) (fun c1084 => ?_))
    · have _cb := (a1078).1
      refine wp_of e82 c82_19 (rw_aload_n (pc' := 20) (v := .ref r0) rfl rfl rfl ?_)
      refine wp_of e82 c82_20 (rw_aload_n (pc' := 21) (v := .ref r0) rfl rfl rfl ?_)
      have k1085 : H1065 r0 3 = H r0 3 := (f1070 r0 3 _ g0 rfl)
      have q1086 : H1065 r0 3 = (ce : Int) := k1085.trans qce
      refine wp_of e82 c82_21 (xg_K (pc' := 24) lf_0_30 w1069 g0 sh_1 (by decide) (by decide) rfl q1086 rfl ?_)
      refine wp_of e82 c82_24 (xg_I (pc' := 27) lf_0_177 w1069 gce sh_12 (by decide) (by decide) ty_12_5 rfl rfl (fun b1087 b1088 => ?_))
      refine wp_of e82 c82_27 (xc_V (pc' := 30) (r := r0) (as := [vI (H1065 ce 5)]) (st := []) (lm_0_99) rfl rfl (Nat.le_of_ble_eq_true rfl) w1069 g0 sh_1 (by decide) rfl (by decide) (u_51  w1069 g0 ⟨by omega, by omega⟩) (fun R1089 T1090 H1091 p1092 => ?_))
      obtain ⟨e1093, w1095, f1096, z1097, e1094, b1098, p1099⟩ := p1092
      subst e1093
      subst e1094
      obtain ⟨a1100, a1101⟩ := p1099
      have f1102 := f1083.tr f1096 rfl
      show wp _ _ 82 30 [(1, vI z1071), (0, .ref r0)] [vI z1097] _ H1091 _
      have h1103 : CEN T H1091 ce e d := (CEN_fr w1069 gce f1096 rfl a1077)
      exact wp_ireturn e82 c82_30 rfl ⟨rfl, w1095, f1102, z1097, rfl, ⟨by omega, by omega⟩, (Or.inr ⟨by omega, by omega, h1103⟩)⟩
    · exfalso
      omega
  · have f1104 := f0.tr f1070 rfl
    show wp _ _ 82 8 [(0, .ref r0)] [vI z1071] _ H1065 _
    refine wp_of e82 c82_8 (rw_istore_n (pc' := 9) (z := z1071) (L' := [(1, vI z1071), (0, .ref r0)]) rfl rfl rfl ?_)
    refine wp_of e82 c82_9 (rw_iload_n (pc' := 10) (z := z1071) rfl rfl ?_)
    refine wp_of e82 c82_10 (rw_if_eq (p1 := 19) (p2 := 13) (by decide) rfl ⟨by omega, by omega⟩ (fun c1105 => ?_) (fun c1105 => ?_))
    · exfalso
      omega
    · refine wp_of e82 c82_13 (rw_aload_n (pc' := 14) (v := .ref r0) rfl rfl rfl ?_)
      refine wp_of e82 c82_14 (rw_iload_n (pc' := 15) (z := z1071) rfl rfl ?_)
      refine wp_of e82 c82_15 (xc_V (pc' := 18) (r := r0) (as := [vI z1071]) (st := []) (lm_0_70) rfl rfl (Nat.le_of_ble_eq_true rfl) w1069 g0 sh_1 (by decide) rfl (by decide) (u_12  w1069 g0 ⟨by omega, by omega⟩) (fun R1106 T1107 H1108 p1109 => ?_))
      obtain ⟨e1110, w1112, f1113, z1114, e1111, b1115, p1116⟩ := p1109
      subst e1110
      subst e1111
      obtain ⟨a1117, a1118⟩ := p1116
      have f1119 := f1104.tr f1113 rfl
      show wp _ _ 82 18 [(1, vI z1071), (0, .ref r0)] [vI z1114] _ H1108 _
      have h1120 : CEN T H1108 ce e d := (CEN_fr w1069 gce f1113 rfl a1082)
      exact wp_ireturn e82 c82_18 rfl ⟨rfl, w1112, f1119, z1114, rfl, ⟨by omega, by omega⟩, (Or.inl ⟨by omega, by omega, h1120⟩)⟩
/-! StrikeAwake.can()I  -/
abbrev uq_92 (r0 : Nat) (cu : Nat) (wa : Nat) (ce : Nat) (e : xD) (d : xD) (n : Int) (T : wq_T) (H : wq_H) : Option Value → wq_T → wq_H → Prop := fun r T' H' => T = T' ∧ WT T H' ∧ wfr [(12, 5), (12, 6), (12, 7), (12, 8), (12, 9), (1, 10), (6, 5), (8, 999), (10, 999), (15, 999), (9, 999), (18, 999), (19, 999), (7, 999), (11, 999), (17, 999), (13, 999)] T H H' ∧ ∃ z : Int, some (vI z) = r ∧ ((-2147483648) ≤ z ∧ z ≤ 2147483647) ∧ (((z = -1) ∧ (H r0 8 = 0 ∨ 20000 < n) ∧ CEN T H' ce e d) ∨ ((0 ≤ z ∧ z ≤ 1) ∧ (H r0 8 ≠ 0 ∧ n ≤ 20000) ∧ ((z = 1 ∧ 0 < xcn (xwf e d) (xlots d).toNat) ∨ (z = 0 ∧ xcn (xwf e d) (xlots d).toNat ≤ 0)) ∧ CEN T H' ce e d))
set_option maxHeartbeats 4000000 in
theorem u_92 {kt : Nat → Option mc_E} {T : wq_T} {H : wq_H} {r0 : Nat} {cu : Nat} {wa : Nat} {ce : Nat} {e : xD} {d : xD} {n : Int} (hW : WT T H) (g0 : T.2.2.2 r0 = some 1) (qcu : H r0 6 = (cu : Int)) (gcu : T.2.2.2 cu = some 27) (qwa : H r0 2 = (wa : Int)) (gwa : T.2.2.2 wa = some 6) (qce : H r0 3 = (ce : Int)) (gce : T.2.2.2 ce = some 12) (p0 : ∀ i, i ≠ 13 → e i = d i) (p1 : XW d) (p2 : e 0 3 = d 0 3) (p3 : e 0 0 = d 0 0) (p4 : H r0 8 = 0 ∨ n = xlots d) (p5 : H r0 8 ≠ 0 ∨ (d 0 3 = 0 ∧ d 0 0 = 0)) (hCU_cu : CU T H cu e d n) (hCEN_ce : CEN T H ce e d) (hHDR_ce : HDR T H ce ) : wpc kt 6 92 [.ref r0] T H (uq_92 r0 cu wa ce e d n T H) := by
  refine wp_enter e92 (Nat.le_of_ble_eq_true rfl) rfl ?_
  have f0 : wfr [(12, 5), (12, 6), (12, 7), (12, 8), (12, 9), (1, 10), (6, 5), (8, 999), (10, 999), (15, 999), (9, 999), (18, 999), (19, 999), (7, 999), (11, 999), (17, 999), (13, 999)] T H H := wfr.rf
  show wp _ _ 92 0 [(0, .ref r0)] [] _ H _
  have u1074 := CU_k hCU_cu
  have b1075 : 0 ≤ H r0 8 ∧ H r0 8 ≤ 1 := hW.box g0 (n := 13) rfl (by decide) rfl
  refine wp_of e92 c92_0 (rw_aload_n (pc' := 1) (v := .ref r0) rfl rfl rfl ?_)
  refine wp_of e92 c92_1 (rw_aload_n (pc' := 2) (v := .ref r0) rfl rfl rfl ?_)
  refine wp_of e92 c92_2 (xg_I (pc' := 5) lf_0_58 hW g0 sh_1 (by decide) (by decide) ty_1_8 rfl rfl (fun b1076 b1077 => ?_))
  refine wp_of e92 c92_5 (xc_V (pc' := 8) (r := r0) (as := [vI (H r0 8)]) (st := []) (lm_0_174) rfl rfl (Nat.le_of_ble_eq_true rfl) hW g0 sh_1 (by decide) rfl (by decide) (u_83 (e := e) (d := d) (n := n) hW g0 ⟨by omega, by omega⟩ qcu gcu qwa gwa qce gce (by assumption) (by assumption) (by omega) (by omega) (by omega) hCU_cu hCEN_ce hHDR_ce) (fun R1078 T1079 H1080 p1081 => ?_))
  obtain ⟨e1082, w1084, f1085, z1086, e1083, b1087, p1088⟩ := p1081
  subst e1082
  subst e1083
  rcases p1088 with ⟨a1089, a1090, a1091, a1092, a1093, a1094⟩ | ⟨a1095, a1096, a1097⟩
  · have f1098 := f0.tr f1085 rfl
    show wp _ _ 92 8 [(0, .ref r0)] [vI z1086] _ H1080 _
    refine wp_of e92 c92_8 (rw_istore_n (pc' := 9) (z := z1086) (L' := [(1, vI z1086), (0, .ref r0)]) rfl rfl rfl ?_)
    refine wp_of e92 c92_9 (rw_iload_n (pc' := 10) (z := z1086) rfl rfl ?_)
    refine wp_of e92 c92_10 (rw_if_eq (p1 := 19) (p2 := 13) (by decide) rfl ⟨by omega, by omega⟩ (fun c1099 => ?_) (fun c1099 => ?_))
    · have _cb := (a1093).1
      refine wp_of e92 c92_19 (rw_aload_n (pc' := 20) (v := .ref r0) rfl rfl rfl ?_)
      refine wp_of e92 c92_20 (rw_aload_n (pc' := 21) (v := .ref r0) rfl rfl rfl ?_)
      have k1100 : H1080 r0 3 = H r0 3 := (f1085 r0 3 _ g0 rfl)
      have q1101 : H1080 r0 3 = (ce : Int) := k1100.trans qce
      refine wp_of e92 c92_21 (xg_K (pc' := 24) lf_0_30 w1084 g0 sh_1 (by decide) (by decide) rfl q1101 rfl ?_)
      refine wp_of e92 c92_24 (xg_I (pc' := 27) lf_0_177 w1084 gce sh_12 (by decide) (by decide) ty_12_5 rfl rfl (fun b1102 b1103 => ?_))
      refine wp_of e92 c92_27 (rw_if_le (p1 := 34) (p2 := 30) (by decide) rfl ⟨by omega, by omega⟩ (fun c1104 => ?_) (fun c1104 => ?_))
      · refine wp_of e92 c92_34 (rw_iconst (pc' := 35) rfl ?_)
        refine wp_of e92 c92_35 (xc_V (pc' := 38) (r := r0) (as := [vI 0]) (st := []) (lm_0_99) rfl rfl (Nat.le_of_ble_eq_true rfl) w1084 g0 sh_1 (by decide) rfl (by decide) (u_51  w1084 g0 ⟨by omega, by omega⟩) (fun R1105 T1106 H1107 p1108 => ?_))
        obtain ⟨e1109, w1111, f1112, z1113, e1110, b1114, p1115⟩ := p1108
        subst e1109
        subst e1110
        obtain ⟨a1116, a1117⟩ := p1115
        have f1118 := f1098.tr f1112 rfl
        show wp _ _ 92 38 [(1, vI z1086), (0, .ref r0)] [vI z1113] _ H1107 _
        have h1119 : CEN T H1107 ce e d := (CEN_fr w1084 gce f1112 rfl a1092)
        exact wp_ireturn e92 c92_38 rfl ⟨rfl, w1111, f1118, z1113, rfl, ⟨by omega, by omega⟩, (Or.inr ⟨by omega, by omega, by omega, h1119⟩)⟩
      · refine wp_of e92 c92_30 (rw_iconst (pc' := 31) rfl ?_)
        refine wp_of e92 c92_31 (rw_goto (p1 := 35) (by decide) ?_)
        refine wp_of e92 c92_35 (xc_V (pc' := 38) (r := r0) (as := [vI 1]) (st := []) (lm_0_99) rfl rfl (Nat.le_of_ble_eq_true rfl) w1084 g0 sh_1 (by decide) rfl (by decide) (u_51  w1084 g0 ⟨by omega, by omega⟩) (fun R1120 T1121 H1122 p1123 => ?_))
        obtain ⟨e1124, w1126, f1127, z1128, e1125, b1129, p1130⟩ := p1123
        subst e1124
        subst e1125
        obtain ⟨a1131, a1132⟩ := p1130
        have f1133 := f1098.tr f1127 rfl
        show wp _ _ 92 38 [(1, vI z1086), (0, .ref r0)] [vI z1128] _ H1122 _
        have h1134 : CEN T H1122 ce e d := (CEN_fr w1084 gce f1127 rfl a1092)
        exact wp_ireturn e92 c92_38 rfl ⟨rfl, w1126, f1133, z1128, rfl, ⟨by omega, by omega⟩, (Or.inr ⟨by omega, by omega, by omega, h1134⟩)⟩
    · exfalso
      omega
  · have f1135 := f0.tr f1085 rfl
    show wp _ _ 92 8 [(0, .ref r0)] [vI z1086] _ H1080 _
    refine wp_of e92 c92_8 (rw_istore_n (pc' := 9) (z := z1086) (L' := [(1, vI z1086), (0, .ref r0)]) rfl rfl rfl ?_)
    refine wp_of e92 c92_9 (rw_iload_n (pc' := 10) (z := z1086) rfl rfl ?_)
    refine wp_of e92 c92_10 (rw_if_eq (p1 := 19) (p2 := 13) (by decide) rfl ⟨by omega, by omega⟩ (fun c1136 => ?_) (fun c1136 => ?_))
    · exfalso
      omega
    · refine wp_of e92 c92_13 (rw_aload_n (pc' := 14) (v := .ref r0) rfl rfl rfl ?_)
      refine wp_of e92 c92_14 (rw_iload_n (pc' := 15) (z := z1086) rfl rfl ?_)
      refine wp_of e92 c92_15 (xc_V (pc' := 18) (r := r0) (as := [vI z1086]) (st := []) (lm_0_70) rfl rfl (Nat.le_of_ble_eq_true rfl) w1084 g0 sh_1 (by decide) rfl (by decide) (u_12  w1084 g0 ⟨by omega, by omega⟩) (fun R1137 T1138 H1139 p1140 => ?_))
      obtain ⟨e1141, w1143, f1144, z1145, e1142, b1146, p1147⟩ := p1140
      subst e1141
      subst e1142
      obtain ⟨a1148, a1149⟩ := p1147
      have f1150 := f1135.tr f1144 rfl
      show wp _ _ 92 18 [(1, vI z1086), (0, .ref r0)] [vI z1145] _ H1139 _
      have h1151 : CEN T H1139 ce e d := (CEN_fr w1084 gce f1144 rfl a1097)
      exact wp_ireturn e92 c92_18 rfl ⟨rfl, w1143, f1150, z1145, rfl, ⟨by omega, by omega⟩, (Or.inl ⟨by omega, by omega, h1151⟩)⟩
/-! StrikeAwake.world(II)I  -/
abbrev uq_93 (r0 : Nat) (a1 : Int) (a2 : Int) (cu : Nat) (wa : Nat) (ce : Nat) (e : xD) (d : xD) (n : Int) (T : wq_T) (H : wq_H) : Option Value → wq_T → wq_H → Prop := fun r T' H' => T = T' ∧ WT T H' ∧ wfr [(12, 5), (12, 6), (12, 7), (12, 8), (12, 9), (1, 10), (6, 5), (8, 999), (10, 999), (15, 999), (9, 999), (18, 999), (19, 999), (7, 999), (11, 999), (17, 999), (13, 999)] T H H' ∧ ∃ z : Int, some (vI z) = r ∧ ((-2147483648) ≤ z ∧ z ≤ 2147483647) ∧ (((z = -1) ∧ (((a2 < 0 ∨ d 0 3 ≤ a2) ∨ a1 < 0) ∨ 20000 < n ∨ xcn (xwf e d) (xlots d).toNat ≤ a1) ∧ CEN T H' ce e d) ∨ ((((0 ≤ a2 ∧ a2 < d 0 3) ∧ 0 ≤ a1) ∧ n ≤ 20000 ∧ a1 < xcn (xwf e d) (xlots d).toNat) ∧ (z = xlot d ((xith (xwf e d) a1 (xlots d).toNat : Nat) : Int) (a2).toNat) ∧ CEN T H' ce e d))
set_option maxHeartbeats 4000000 in
theorem u_93 {kt : Nat → Option mc_E} {T : wq_T} {H : wq_H} {r0 : Nat} {a1 : Int} {a2 : Int} {cu : Nat} {wa : Nat} {ce : Nat} {e : xD} {d : xD} {n : Int} (hW : WT T H) (g0 : T.2.2.2 r0 = some 1) (i1 : (-2147483648) ≤ a1 ∧ a1 ≤ 2147483647) (i2 : (-2147483648) ≤ a2 ∧ a2 ≤ 2147483647) (qcu : H r0 6 = (cu : Int)) (gcu : T.2.2.2 cu = some 27) (qwa : H r0 2 = (wa : Int)) (gwa : T.2.2.2 wa = some 6) (qce : H r0 3 = (ce : Int)) (gce : T.2.2.2 ce = some 12) (p0 : ∀ i, i ≠ 13 → e i = d i) (p1 : XW d) (p2 : e 0 3 = d 0 3) (p3 : e 0 0 = d 0 0) (p4 : H r0 8 = 0 ∨ n = xlots d) (p5 : H r0 8 ≠ 0 ∨ (d 0 3 = 0 ∧ d 0 0 = 0)) (hCU_cu : CU T H cu e d n) (hCEN_ce : CEN T H ce e d) (hHDR_ce : HDR T H ce ) : wpc kt 6 93 [.ref r0, vI a1, vI a2] T H (uq_93 r0 a1 a2 cu wa ce e d n T H) := by
  refine wp_enter e93 (Nat.le_of_ble_eq_true rfl) rfl ?_
  have f0 : wfr [(12, 5), (12, 6), (12, 7), (12, 8), (12, 9), (1, 10), (6, 5), (8, 999), (10, 999), (15, 999), (9, 999), (18, 999), (19, 999), (7, 999), (11, 999), (17, 999), (13, 999)] T H H := wfr.rf
  show wp _ _ 93 0 [(0, .ref r0), (1, vI a1), (2, vI a2)] [] _ H _
  have u1297 := CU_k hCU_cu
  have b1298 : 0 ≤ H r0 8 ∧ H r0 8 ≤ 1 := hW.box g0 (n := 13) rfl (by decide) rfl
  refine wp_of e93 c93_0 (rw_aload_n (pc' := 1) (v := .ref r0) rfl rfl rfl ?_)
  refine wp_of e93 c93_1 (rw_aload_n (pc' := 2) (v := .ref r0) rfl rfl rfl ?_)
  refine wp_of e93 c93_2 (rw_iload_n (pc' := 3) (z := a2) rfl rfl ?_)
  refine wp_of e93 c93_3 (xc_V (pc' := 6) (r := r0) (as := [vI a2]) (st := [.ref r0]) (lm_0_105) rfl rfl (Nat.le_of_ble_eq_true rfl) hW g0 sh_1 (by decide) rfl (by decide) (u_55  hW g0 ⟨by omega, by omega⟩ qcu gcu) (fun R1299 T1300 H1301 p1302 => ?_))
  obtain ⟨e1303, e1305, z1306, e1304, b1307, p1308⟩ := p1302
  subst e1303
  subst e1304
  subst e1305
  rcases p1308 with ⟨a1309, a1310⟩ | ⟨a1311, a1312⟩
  · show wp _ _ 93 6 [(0, .ref r0), (1, vI a1), (2, vI a2)] [vI z1306, .ref r0] _ H _
    refine wp_of e93 c93_6 (rw_if_eq (p1 := 17) (p2 := 9) (by decide) rfl ⟨by omega, by omega⟩ (fun c1313 => ?_) (fun c1313 => ?_))
    · exfalso
      omega
    · refine wp_of e93 c93_9 (rw_iload_n (pc' := 10) (z := a1) rfl rfl ?_)
      refine wp_of e93 c93_10 (rw_if_lt (p1 := 17) (p2 := 13) (by decide) rfl ⟨by omega, by omega⟩ (fun c1314 => ?_) (fun c1314 => ?_))
      · refine wp_of e93 c93_17 (rw_iconst (pc' := 18) rfl ?_)
        refine wp_of e93 c93_18 (xc_V (pc' := 21) (r := r0) (as := [vI 0]) (st := []) (lm_0_174) rfl rfl (Nat.le_of_ble_eq_true rfl) hW g0 sh_1 (by decide) rfl (by decide) (u_83 (e := e) (d := d) (n := n) hW g0 ⟨by omega, by omega⟩ qcu gcu qwa gwa qce gce (by assumption) (by assumption) (by omega) (by omega) (by omega) hCU_cu hCEN_ce hHDR_ce) (fun R1315 T1316 H1317 p1318 => ?_))
        obtain ⟨e1319, w1321, f1322, z1323, e1320, b1324, p1325⟩ := p1318
        subst e1319
        subst e1320
        rcases p1325 with ⟨a1326, a1327, a1328, a1329, a1330, a1331⟩ | ⟨a1332, a1333, a1334⟩
        · have f1335 := f0.tr f1322 rfl
          show wp _ _ 93 21 [(0, .ref r0), (1, vI a1), (2, vI a2)] [vI z1323] _ H1317 _
          refine wp_of e93 c93_21 (rw_istore_n (pc' := 22) (z := z1323) (L' := [(3, vI z1323), (0, .ref r0), (1, vI a1), (2, vI a2)]) rfl rfl rfl ?_)
          refine wp_of e93 c93_22 (rw_iload_n (pc' := 23) (z := z1323) rfl rfl ?_)
          refine wp_of e93 c93_23 (rw_if_eq (p1 := 32) (p2 := 26) (by decide) rfl ⟨by omega, by omega⟩ (fun c1336 => ?_) (fun c1336 => ?_))
          · have _cbb := a1330
            have _cb := _cbb.1
            have _cb6 := _cbb.2.1
            have _cb8 := _cbb.2.2.1
            have _cb7 := _cbb.2.2.2.1
            have h1337 : CEM T H1317 ce (xwf e d) (xlots d).toNat := _cbb.2.2.2.2
            refine wp_of e93 c93_32 (rw_iload_n (pc' := 33) (z := a1) rfl rfl ?_)
            refine wp_of e93 c93_33 (rw_aload_n (pc' := 34) (v := .ref r0) rfl rfl rfl ?_)
            have k1338 : H1317 r0 3 = H r0 3 := (f1322 r0 3 _ g0 rfl)
            have q1339 : H1317 r0 3 = (ce : Int) := k1338.trans qce
            refine wp_of e93 c93_34 (xg_K (pc' := 37) lf_0_30 w1321 g0 sh_1 (by decide) (by decide) rfl q1339 rfl ?_)
            refine wp_of e93 c93_37 (xg_I (pc' := 40) lf_0_177 w1321 gce sh_12 (by decide) (by decide) ty_12_5 rfl rfl (fun b1340 b1341 => ?_))
            refine wp_of e93 c93_40 (rw_icmp_lt (p1 := 49) (p2 := 43) (by decide) rfl ⟨by omega, by omega⟩ ⟨by omega, by omega⟩ (fun c1342 => ?_) (fun c1342 => ?_))
            · have _nb := xcn_b (f := xwf e d) (xlots d).toNat
              refine wp_of e93 c93_49 (rw_aload_n (pc' := 50) (v := .ref r0) rfl rfl rfl ?_)
              refine wp_of e93 c93_50 (rw_aload_n (pc' := 51) (v := .ref r0) rfl rfl rfl ?_)
              have k1343 : H1317 r0 6 = H r0 6 := (f1322 r0 6 _ g0 rfl)
              have q1344 : H1317 r0 6 = (cu : Int) := k1343.trans qcu
              refine wp_of e93 c93_51 (xg_K (pc' := 54) lf_0_51 w1321 g0 sh_1 (by decide) (by decide) rfl q1344 rfl ?_)
              refine wp_of e93 c93_54 (rw_aload_n (pc' := 55) (v := .ref r0) rfl rfl rfl ?_)
              refine wp_of e93 c93_55 (xg_K (pc' := 58) lf_0_30 w1321 g0 sh_1 (by decide) (by decide) rfl q1339 rfl ?_)
              refine wp_of e93 c93_58 (rw_iload_n (pc' := 59) (z := a1) rfl rfl ?_)
              refine wp_of e93 c93_59 (xc_V (pc' := 62) (r := ce) (as := [vI a1]) (st := [.ref cu, .ref r0]) (lm_0_180) rfl rfl (Nat.le_of_ble_eq_true rfl) w1321 gce sh_12 (by decide) rfl (by decide) (s_94 w1321 gce ⟨by omega, by omega⟩) (fun R1345 T1346 H1347 p1348 => ?_))
              obtain ⟨e1349, e1351, z1352, e1350, b1353⟩ := p1348
              subst e1349
              subst e1350
              subst e1351
              show wp _ _ 93 62 [(3, vI z1323), (0, .ref r0), (1, vI a1), (2, vI a2)] [vI z1352, .ref cu, .ref r0] _ H1317 _
              have _xi := xith_ex (f := xwf e d) (i := a1) (xlots d).toNat (by omega) (by omega)
              refine wp_of e93 c93_62 (rw_iload_n (pc' := 63) (z := a2) rfl rfl ?_)
              have h1354 : CU T H1317 cu e d n := (CU_fr hW gcu f1322 rfl hCU_cu)
              refine wp_of e93 c93_63 (xc_V (pc' := 66) (r := cu) (as := [vI z1352, vI a2]) (st := [.ref r0]) (lm_0_183) rfl rfl (Nat.le_of_ble_eq_true rfl) w1321 gcu sh_27 (by decide) rfl (by decide) (u_96 (e := e) (d := d) (n := n) w1321 gcu ⟨by omega, by omega⟩ ⟨by omega, by omega⟩ (by omega) (by omega) (by omega) (by omega) h1354) (fun R1355 T1356 H1357 p1358 => ?_))
              obtain ⟨e1359, e1361, z1362, e1360, b1363, p1364⟩ := p1358
              subst e1359
              subst e1360
              subst e1361
              show wp _ _ 93 66 [(3, vI z1323), (0, .ref r0), (1, vI a1), (2, vI a2)] [vI z1362, .ref r0] _ H1317 _
              refine wp_of e93 c93_66 (xc_V (pc' := 69) (r := r0) (as := [vI z1362]) (st := []) (lm_0_99) rfl rfl (Nat.le_of_ble_eq_true rfl) w1321 g0 sh_1 (by decide) rfl (by decide) (u_51  w1321 g0 ⟨by omega, by omega⟩) (fun R1366 T1367 H1368 p1369 => ?_))
              obtain ⟨e1370, w1372, f1373, z1374, e1371, b1375, p1376⟩ := p1369
              subst e1370
              subst e1371
              obtain ⟨a1377, a1378⟩ := p1376
              have f1379 := f1335.tr f1373 rfl
              show wp _ _ 93 69 [(3, vI z1323), (0, .ref r0), (1, vI a1), (2, vI a2)] [vI z1374] _ H1368 _
              have h1380 : CEN T H1368 ce e d := (CEN_fr w1321 gce f1373 rfl a1329)
              exact wp_ireturn e93 c93_69 rfl ⟨rfl, w1372, f1379, z1374, rfl, ⟨by omega, by omega⟩, (Or.inr ⟨by omega, by omega, h1380⟩)⟩
            · refine wp_of e93 c93_43 (rw_aload_n (pc' := 44) (v := .ref r0) rfl rfl rfl ?_)
              refine wp_of e93 c93_44 (rw_iconst (pc' := 45) rfl ?_)
              refine wp_of e93 c93_45 (xc_V (pc' := 48) (r := r0) (as := [vI 1]) (st := []) (lm_0_70) rfl rfl (Nat.le_of_ble_eq_true rfl) w1321 g0 sh_1 (by decide) rfl (by decide) (u_12  w1321 g0 ⟨by omega, by omega⟩) (fun R1381 T1382 H1383 p1384 => ?_))
              obtain ⟨e1385, w1387, f1388, z1389, e1386, b1390, p1391⟩ := p1384
              subst e1385
              subst e1386
              obtain ⟨a1392, a1393⟩ := p1391
              have f1394 := f1335.tr f1388 rfl
              show wp _ _ 93 48 [(3, vI z1323), (0, .ref r0), (1, vI a1), (2, vI a2)] [vI z1389] _ H1383 _
              have h1395 : CEN T H1383 ce e d := (CEN_fr w1321 gce f1388 rfl a1329)
              exact wp_ireturn e93 c93_48 rfl ⟨rfl, w1387, f1394, z1389, rfl, ⟨by omega, by omega⟩, (Or.inl ⟨by omega, by omega, h1395⟩)⟩
          · exfalso
            omega
        · have f1396 := f0.tr f1322 rfl
          show wp _ _ 93 21 [(0, .ref r0), (1, vI a1), (2, vI a2)] [vI z1323] _ H1317 _
          refine wp_of e93 c93_21 (rw_istore_n (pc' := 22) (z := z1323) (L' := [(3, vI z1323), (0, .ref r0), (1, vI a1), (2, vI a2)]) rfl rfl rfl ?_)
          refine wp_of e93 c93_22 (rw_iload_n (pc' := 23) (z := z1323) rfl rfl ?_)
          refine wp_of e93 c93_23 (rw_if_eq (p1 := 32) (p2 := 26) (by decide) rfl ⟨by omega, by omega⟩ (fun c1397 => ?_) (fun c1397 => ?_))
          · exfalso
            omega
          · refine wp_of e93 c93_26 (rw_aload_n (pc' := 27) (v := .ref r0) rfl rfl rfl ?_)
            refine wp_of e93 c93_27 (rw_iload_n (pc' := 28) (z := z1323) rfl rfl ?_)
            refine wp_of e93 c93_28 (xc_V (pc' := 31) (r := r0) (as := [vI z1323]) (st := []) (lm_0_70) rfl rfl (Nat.le_of_ble_eq_true rfl) w1321 g0 sh_1 (by decide) rfl (by decide) (u_12  w1321 g0 ⟨by omega, by omega⟩) (fun R1398 T1399 H1400 p1401 => ?_))
            obtain ⟨e1402, w1404, f1405, z1406, e1403, b1407, p1408⟩ := p1401
            subst e1402
            subst e1403
            obtain ⟨a1409, a1410⟩ := p1408
            have f1411 := f1396.tr f1405 rfl
            show wp _ _ 93 31 [(3, vI z1323), (0, .ref r0), (1, vI a1), (2, vI a2)] [vI z1406] _ H1400 _
            have h1412 : CEN T H1400 ce e d := (CEN_fr w1321 gce f1405 rfl a1334)
            exact wp_ireturn e93 c93_31 rfl ⟨rfl, w1404, f1411, z1406, rfl, ⟨by omega, by omega⟩, (Or.inl ⟨by omega, by omega, h1412⟩)⟩
      · refine wp_of e93 c93_13 (rw_iconst (pc' := 14) rfl ?_)
        refine wp_of e93 c93_14 (rw_goto (p1 := 18) (by decide) ?_)
        refine wp_of e93 c93_18 (xc_V (pc' := 21) (r := r0) (as := [vI 1]) (st := []) (lm_0_174) rfl rfl (Nat.le_of_ble_eq_true rfl) hW g0 sh_1 (by decide) rfl (by decide) (u_83 (e := e) (d := d) (n := n) hW g0 ⟨by omega, by omega⟩ qcu gcu qwa gwa qce gce (by assumption) (by assumption) (by omega) (by omega) (by omega) hCU_cu hCEN_ce hHDR_ce) (fun R1413 T1414 H1415 p1416 => ?_))
        obtain ⟨e1417, w1419, f1420, z1421, e1418, b1422, p1423⟩ := p1416
        subst e1417
        subst e1418
        rcases p1423 with ⟨a1424, a1425, a1426, a1427, a1428, a1429⟩ | ⟨a1430, a1431, a1432⟩
        · have f1433 := f0.tr f1420 rfl
          show wp _ _ 93 21 [(0, .ref r0), (1, vI a1), (2, vI a2)] [vI z1421] _ H1415 _
          refine wp_of e93 c93_21 (rw_istore_n (pc' := 22) (z := z1421) (L' := [(3, vI z1421), (0, .ref r0), (1, vI a1), (2, vI a2)]) rfl rfl rfl ?_)
          refine wp_of e93 c93_22 (rw_iload_n (pc' := 23) (z := z1421) rfl rfl ?_)
          refine wp_of e93 c93_23 (rw_if_eq (p1 := 32) (p2 := 26) (by decide) rfl ⟨by omega, by omega⟩ (fun c1434 => ?_) (fun c1434 => ?_))
          · have _cbb := a1428
            have _cb := _cbb.1
            have _cb6 := _cbb.2.1
            have _cb8 := _cbb.2.2.1
            have _cb7 := _cbb.2.2.2.1
            have h1435 : CEM T H1415 ce (xwf e d) (xlots d).toNat := _cbb.2.2.2.2
            refine wp_of e93 c93_32 (rw_iload_n (pc' := 33) (z := a1) rfl rfl ?_)
            refine wp_of e93 c93_33 (rw_aload_n (pc' := 34) (v := .ref r0) rfl rfl rfl ?_)
            have k1436 : H1415 r0 3 = H r0 3 := (f1420 r0 3 _ g0 rfl)
            have q1437 : H1415 r0 3 = (ce : Int) := k1436.trans qce
            refine wp_of e93 c93_34 (xg_K (pc' := 37) lf_0_30 w1419 g0 sh_1 (by decide) (by decide) rfl q1437 rfl ?_)
            refine wp_of e93 c93_37 (xg_I (pc' := 40) lf_0_177 w1419 gce sh_12 (by decide) (by decide) ty_12_5 rfl rfl (fun b1438 b1439 => ?_))
            refine wp_of e93 c93_40 (rw_icmp_lt (p1 := 49) (p2 := 43) (by decide) rfl ⟨by omega, by omega⟩ ⟨by omega, by omega⟩ (fun c1440 => ?_) (fun c1440 => ?_))
            · have _nb := xcn_b (f := xwf e d) (xlots d).toNat
              refine wp_of e93 c93_49 (rw_aload_n (pc' := 50) (v := .ref r0) rfl rfl rfl ?_)
              refine wp_of e93 c93_50 (rw_aload_n (pc' := 51) (v := .ref r0) rfl rfl rfl ?_)
              have k1441 : H1415 r0 6 = H r0 6 := (f1420 r0 6 _ g0 rfl)
              have q1442 : H1415 r0 6 = (cu : Int) := k1441.trans qcu
              refine wp_of e93 c93_51 (xg_K (pc' := 54) lf_0_51 w1419 g0 sh_1 (by decide) (by decide) rfl q1442 rfl ?_)
              refine wp_of e93 c93_54 (rw_aload_n (pc' := 55) (v := .ref r0) rfl rfl rfl ?_)
              refine wp_of e93 c93_55 (xg_K (pc' := 58) lf_0_30 w1419 g0 sh_1 (by decide) (by decide) rfl q1437 rfl ?_)
              refine wp_of e93 c93_58 (rw_iload_n (pc' := 59) (z := a1) rfl rfl ?_)
              refine wp_of e93 c93_59 (xc_V (pc' := 62) (r := ce) (as := [vI a1]) (st := [.ref cu, .ref r0]) (lm_0_180) rfl rfl (Nat.le_of_ble_eq_true rfl) w1419 gce sh_12 (by decide) rfl (by decide) (s_94 w1419 gce ⟨by omega, by omega⟩) (fun R1443 T1444 H1445 p1446 => ?_))
              obtain ⟨e1447, e1449, z1450, e1448, b1451⟩ := p1446
              subst e1447
              subst e1448
              subst e1449
              show wp _ _ 93 62 [(3, vI z1421), (0, .ref r0), (1, vI a1), (2, vI a2)] [vI z1450, .ref cu, .ref r0] _ H1415 _
              have _xi := xith_ex (f := xwf e d) (i := a1) (xlots d).toNat (by omega) (by omega)
              refine wp_of e93 c93_62 (rw_iload_n (pc' := 63) (z := a2) rfl rfl ?_)
              have h1452 : CU T H1415 cu e d n := (CU_fr hW gcu f1420 rfl hCU_cu)
              refine wp_of e93 c93_63 (xc_V (pc' := 66) (r := cu) (as := [vI z1450, vI a2]) (st := [.ref r0]) (lm_0_183) rfl rfl (Nat.le_of_ble_eq_true rfl) w1419 gcu sh_27 (by decide) rfl (by decide) (u_96 (e := e) (d := d) (n := n) w1419 gcu ⟨by omega, by omega⟩ ⟨by omega, by omega⟩ (by omega) (by omega) (by omega) (by omega) h1452) (fun R1453 T1454 H1455 p1456 => ?_))
              obtain ⟨e1457, e1459, z1460, e1458, b1461, p1462⟩ := p1456
              subst e1457
              subst e1458
              subst e1459
              show wp _ _ 93 66 [(3, vI z1421), (0, .ref r0), (1, vI a1), (2, vI a2)] [vI z1460, .ref r0] _ H1415 _
              refine wp_of e93 c93_66 (xc_V (pc' := 69) (r := r0) (as := [vI z1460]) (st := []) (lm_0_99) rfl rfl (Nat.le_of_ble_eq_true rfl) w1419 g0 sh_1 (by decide) rfl (by decide) (u_51  w1419 g0 ⟨by omega, by omega⟩) (fun R1464 T1465 H1466 p1467 => ?_))
              obtain ⟨e1468, w1470, f1471, z1472, e1469, b1473, p1474⟩ := p1467
              subst e1468
              subst e1469
              obtain ⟨a1475, a1476⟩ := p1474
              have f1477 := f1433.tr f1471 rfl
              show wp _ _ 93 69 [(3, vI z1421), (0, .ref r0), (1, vI a1), (2, vI a2)] [vI z1472] _ H1466 _
              have h1478 : CEN T H1466 ce e d := (CEN_fr w1419 gce f1471 rfl a1427)
              exact wp_ireturn e93 c93_69 rfl ⟨rfl, w1470, f1477, z1472, rfl, ⟨by omega, by omega⟩, (Or.inr ⟨by omega, by omega, h1478⟩)⟩
            · refine wp_of e93 c93_43 (rw_aload_n (pc' := 44) (v := .ref r0) rfl rfl rfl ?_)
              refine wp_of e93 c93_44 (rw_iconst (pc' := 45) rfl ?_)
              refine wp_of e93 c93_45 (xc_V (pc' := 48) (r := r0) (as := [vI 1]) (st := []) (lm_0_70) rfl rfl (Nat.le_of_ble_eq_true rfl) w1419 g0 sh_1 (by decide) rfl (by decide) (u_12  w1419 g0 ⟨by omega, by omega⟩) (fun R1479 T1480 H1481 p1482 => ?_))
              obtain ⟨e1483, w1485, f1486, z1487, e1484, b1488, p1489⟩ := p1482
              subst e1483
              subst e1484
              obtain ⟨a1490, a1491⟩ := p1489
              have f1492 := f1433.tr f1486 rfl
              show wp _ _ 93 48 [(3, vI z1421), (0, .ref r0), (1, vI a1), (2, vI a2)] [vI z1487] _ H1481 _
              have h1493 : CEN T H1481 ce e d := (CEN_fr w1419 gce f1486 rfl a1427)
              exact wp_ireturn e93 c93_48 rfl ⟨rfl, w1485, f1492, z1487, rfl, ⟨by omega, by omega⟩, (Or.inl ⟨by omega, by omega, h1493⟩)⟩
          · exfalso
            omega
        · have f1494 := f0.tr f1420 rfl
          show wp _ _ 93 21 [(0, .ref r0), (1, vI a1), (2, vI a2)] [vI z1421] _ H1415 _
          refine wp_of e93 c93_21 (rw_istore_n (pc' := 22) (z := z1421) (L' := [(3, vI z1421), (0, .ref r0), (1, vI a1), (2, vI a2)]) rfl rfl rfl ?_)
          refine wp_of e93 c93_22 (rw_iload_n (pc' := 23) (z := z1421) rfl rfl ?_)
          refine wp_of e93 c93_23 (rw_if_eq (p1 := 32) (p2 := 26) (by decide) rfl ⟨by omega, by omega⟩ (fun c1495 => ?_) (fun c1495 => ?_))
          · exfalso
            omega
          · refine wp_of e93 c93_26 (rw_aload_n (pc' := 27) (v := .ref r0) rfl rfl rfl ?_)
            refine wp_of e93 c93_27 (rw_iload_n (pc' := 28) (z := z1421) rfl rfl ?_)
            refine wp_of e93 c93_28 (xc_V (pc' := 31) (r := r0) (as := [vI z1421]) (st := []) (lm_0_70) rfl rfl (Nat.le_of_ble_eq_true rfl) w1419 g0 sh_1 (by decide) rfl (by decide) (u_12  w1419 g0 ⟨by omega, by omega⟩) (fun R1496 T1497 H1498 p1499 => ?_))
            obtain ⟨e1500, w1502, f1503, z1504, e1501, b1505, p1506⟩ := p1499
            subst e1500
            subst e1501
            obtain ⟨a1507, a1508⟩ := p1506
            have f1509 := f1494.tr f1503 rfl
            show wp _ _ 93 31 [(3, vI z1421), (0, .ref r0), (1, vI a1), (2, vI a2)] [vI z1504] _ H1498 _
            have h1510 : CEN T H1498 ce e d := (CEN_fr w1419 gce f1503 rfl a1432)
            exact wp_ireturn e93 c93_31 rfl ⟨rfl, w1502, f1509, z1504, rfl, ⟨by omega, by omega⟩, (Or.inl ⟨by omega, by omega, h1510⟩)⟩
  · show wp _ _ 93 6 [(0, .ref r0), (1, vI a1), (2, vI a2)] [vI z1306, .ref r0] _ H _
    refine wp_of e93 c93_6 (rw_if_eq (p1 := 17) (p2 := 9) (by decide) rfl ⟨by omega, by omega⟩ (fun c1511 => ?_) (fun c1511 => ?_))
    · refine wp_of e93 c93_17 (rw_iconst (pc' := 18) rfl ?_)
      refine wp_of e93 c93_18 (xc_V (pc' := 21) (r := r0) (as := [vI 0]) (st := []) (lm_0_174) rfl rfl (Nat.le_of_ble_eq_true rfl) hW g0 sh_1 (by decide) rfl (by decide) (u_83 (e := e) (d := d) (n := n) hW g0 ⟨by omega, by omega⟩ qcu gcu qwa gwa qce gce (by assumption) (by assumption) (by omega) (by omega) (by omega) hCU_cu hCEN_ce hHDR_ce) (fun R1512 T1513 H1514 p1515 => ?_))
      obtain ⟨e1516, w1518, f1519, z1520, e1517, b1521, p1522⟩ := p1515
      subst e1516
      subst e1517
      rcases p1522 with ⟨a1523, a1524, a1525, a1526, a1527, a1528⟩ | ⟨a1529, a1530, a1531⟩
      · have f1532 := f0.tr f1519 rfl
        show wp _ _ 93 21 [(0, .ref r0), (1, vI a1), (2, vI a2)] [vI z1520] _ H1514 _
        refine wp_of e93 c93_21 (rw_istore_n (pc' := 22) (z := z1520) (L' := [(3, vI z1520), (0, .ref r0), (1, vI a1), (2, vI a2)]) rfl rfl rfl ?_)
        refine wp_of e93 c93_22 (rw_iload_n (pc' := 23) (z := z1520) rfl rfl ?_)
        refine wp_of e93 c93_23 (rw_if_eq (p1 := 32) (p2 := 26) (by decide) rfl ⟨by omega, by omega⟩ (fun c1533 => ?_) (fun c1533 => ?_))
        · have _cbb := a1527
          have _cb := _cbb.1
          have _cb6 := _cbb.2.1
          have _cb8 := _cbb.2.2.1
          have _cb7 := _cbb.2.2.2.1
          have h1534 : CEM T H1514 ce (xwf e d) (xlots d).toNat := _cbb.2.2.2.2
          refine wp_of e93 c93_32 (rw_iload_n (pc' := 33) (z := a1) rfl rfl ?_)
          refine wp_of e93 c93_33 (rw_aload_n (pc' := 34) (v := .ref r0) rfl rfl rfl ?_)
          have k1535 : H1514 r0 3 = H r0 3 := (f1519 r0 3 _ g0 rfl)
          have q1536 : H1514 r0 3 = (ce : Int) := k1535.trans qce
          refine wp_of e93 c93_34 (xg_K (pc' := 37) lf_0_30 w1518 g0 sh_1 (by decide) (by decide) rfl q1536 rfl ?_)
          refine wp_of e93 c93_37 (xg_I (pc' := 40) lf_0_177 w1518 gce sh_12 (by decide) (by decide) ty_12_5 rfl rfl (fun b1537 b1538 => ?_))
          refine wp_of e93 c93_40 (rw_icmp_lt (p1 := 49) (p2 := 43) (by decide) rfl ⟨by omega, by omega⟩ ⟨by omega, by omega⟩ (fun c1539 => ?_) (fun c1539 => ?_))
          · have _nb := xcn_b (f := xwf e d) (xlots d).toNat
            refine wp_of e93 c93_49 (rw_aload_n (pc' := 50) (v := .ref r0) rfl rfl rfl ?_)
            refine wp_of e93 c93_50 (rw_aload_n (pc' := 51) (v := .ref r0) rfl rfl rfl ?_)
            have k1540 : H1514 r0 6 = H r0 6 := (f1519 r0 6 _ g0 rfl)
            have q1541 : H1514 r0 6 = (cu : Int) := k1540.trans qcu
            refine wp_of e93 c93_51 (xg_K (pc' := 54) lf_0_51 w1518 g0 sh_1 (by decide) (by decide) rfl q1541 rfl ?_)
            refine wp_of e93 c93_54 (rw_aload_n (pc' := 55) (v := .ref r0) rfl rfl rfl ?_)
            refine wp_of e93 c93_55 (xg_K (pc' := 58) lf_0_30 w1518 g0 sh_1 (by decide) (by decide) rfl q1536 rfl ?_)
            refine wp_of e93 c93_58 (rw_iload_n (pc' := 59) (z := a1) rfl rfl ?_)
            refine wp_of e93 c93_59 (xc_V (pc' := 62) (r := ce) (as := [vI a1]) (st := [.ref cu, .ref r0]) (lm_0_180) rfl rfl (Nat.le_of_ble_eq_true rfl) w1518 gce sh_12 (by decide) rfl (by decide) (s_94 w1518 gce ⟨by omega, by omega⟩) (fun R1542 T1543 H1544 p1545 => ?_))
            obtain ⟨e1546, e1548, z1549, e1547, b1550⟩ := p1545
            subst e1546
            subst e1547
            subst e1548
            show wp _ _ 93 62 [(3, vI z1520), (0, .ref r0), (1, vI a1), (2, vI a2)] [vI z1549, .ref cu, .ref r0] _ H1514 _
            have _xi := xith_ex (f := xwf e d) (i := a1) (xlots d).toNat (by omega) (by omega)
            refine wp_of e93 c93_62 (rw_iload_n (pc' := 63) (z := a2) rfl rfl ?_)
            have h1551 : CU T H1514 cu e d n := (CU_fr hW gcu f1519 rfl hCU_cu)
            refine wp_of e93 c93_63 (xc_V (pc' := 66) (r := cu) (as := [vI z1549, vI a2]) (st := [.ref r0]) (lm_0_183) rfl rfl (Nat.le_of_ble_eq_true rfl) w1518 gcu sh_27 (by decide) rfl (by decide) (u_96 (e := e) (d := d) (n := n) w1518 gcu ⟨by omega, by omega⟩ ⟨by omega, by omega⟩ (by omega) (by omega) (by omega) (by omega) h1551) (fun R1552 T1553 H1554 p1555 => ?_))
            obtain ⟨e1556, e1558, z1559, e1557, b1560, p1561⟩ := p1555
            subst e1556
            subst e1557
            subst e1558
            show wp _ _ 93 66 [(3, vI z1520), (0, .ref r0), (1, vI a1), (2, vI a2)] [vI z1559, .ref r0] _ H1514 _
            refine wp_of e93 c93_66 (xc_V (pc' := 69) (r := r0) (as := [vI z1559]) (st := []) (lm_0_99) rfl rfl (Nat.le_of_ble_eq_true rfl) w1518 g0 sh_1 (by decide) rfl (by decide) (u_51  w1518 g0 ⟨by omega, by omega⟩) (fun R1563 T1564 H1565 p1566 => ?_))
            obtain ⟨e1567, w1569, f1570, z1571, e1568, b1572, p1573⟩ := p1566
            subst e1567
            subst e1568
            obtain ⟨a1574, a1575⟩ := p1573
            have f1576 := f1532.tr f1570 rfl
            show wp _ _ 93 69 [(3, vI z1520), (0, .ref r0), (1, vI a1), (2, vI a2)] [vI z1571] _ H1565 _
            have h1577 : CEN T H1565 ce e d := (CEN_fr w1518 gce f1570 rfl a1526)
            exact wp_ireturn e93 c93_69 rfl ⟨rfl, w1569, f1576, z1571, rfl, ⟨by omega, by omega⟩, (Or.inr ⟨by omega, by omega, h1577⟩)⟩
          · refine wp_of e93 c93_43 (rw_aload_n (pc' := 44) (v := .ref r0) rfl rfl rfl ?_)
            refine wp_of e93 c93_44 (rw_iconst (pc' := 45) rfl ?_)
            refine wp_of e93 c93_45 (xc_V (pc' := 48) (r := r0) (as := [vI 1]) (st := []) (lm_0_70) rfl rfl (Nat.le_of_ble_eq_true rfl) w1518 g0 sh_1 (by decide) rfl (by decide) (u_12  w1518 g0 ⟨by omega, by omega⟩) (fun R1578 T1579 H1580 p1581 => ?_))
            obtain ⟨e1582, w1584, f1585, z1586, e1583, b1587, p1588⟩ := p1581
            subst e1582
            subst e1583
            obtain ⟨a1589, a1590⟩ := p1588
            have f1591 := f1532.tr f1585 rfl
            show wp _ _ 93 48 [(3, vI z1520), (0, .ref r0), (1, vI a1), (2, vI a2)] [vI z1586] _ H1580 _
            have h1592 : CEN T H1580 ce e d := (CEN_fr w1518 gce f1585 rfl a1526)
            exact wp_ireturn e93 c93_48 rfl ⟨rfl, w1584, f1591, z1586, rfl, ⟨by omega, by omega⟩, (Or.inl ⟨by omega, by omega, h1592⟩)⟩
        · exfalso
          omega
      · have f1593 := f0.tr f1519 rfl
        show wp _ _ 93 21 [(0, .ref r0), (1, vI a1), (2, vI a2)] [vI z1520] _ H1514 _
        refine wp_of e93 c93_21 (rw_istore_n (pc' := 22) (z := z1520) (L' := [(3, vI z1520), (0, .ref r0), (1, vI a1), (2, vI a2)]) rfl rfl rfl ?_)
        refine wp_of e93 c93_22 (rw_iload_n (pc' := 23) (z := z1520) rfl rfl ?_)
        refine wp_of e93 c93_23 (rw_if_eq (p1 := 32) (p2 := 26) (by decide) rfl ⟨by omega, by omega⟩ (fun c1594 => ?_) (fun c1594 => ?_))
        · exfalso
          omega
        · refine wp_of e93 c93_26 (rw_aload_n (pc' := 27) (v := .ref r0) rfl rfl rfl ?_)
          refine wp_of e93 c93_27 (rw_iload_n (pc' := 28) (z := z1520) rfl rfl ?_)
          refine wp_of e93 c93_28 (xc_V (pc' := 31) (r := r0) (as := [vI z1520]) (st := []) (lm_0_70) rfl rfl (Nat.le_of_ble_eq_true rfl) w1518 g0 sh_1 (by decide) rfl (by decide) (u_12  w1518 g0 ⟨by omega, by omega⟩) (fun R1595 T1596 H1597 p1598 => ?_))
          obtain ⟨e1599, w1601, f1602, z1603, e1600, b1604, p1605⟩ := p1598
          subst e1599
          subst e1600
          obtain ⟨a1606, a1607⟩ := p1605
          have f1608 := f1593.tr f1602 rfl
          show wp _ _ 93 31 [(3, vI z1520), (0, .ref r0), (1, vI a1), (2, vI a2)] [vI z1603] _ H1597 _
          have h1609 : CEN T H1597 ce e d := (CEN_fr w1518 gce f1602 rfl a1531)
          exact wp_ireturn e93 c93_31 rfl ⟨rfl, w1601, f1608, z1603, rfl, ⟨by omega, by omega⟩, (Or.inl ⟨by omega, by omega, h1609⟩)⟩
    · exfalso
      omega
/-! StrikeAwake.weights()J  -/
abbrev uq_97 (r0 : Nat) (cu : Nat) (wa : Nat) (ce : Nat) (e : xD) (d : xD) (n : Int) (T : wq_T) (H : wq_H) : Option Value → wq_T → wq_H → Prop := fun r T' H' => T = T' ∧ WT T H' ∧ wfr [(12, 5), (12, 6), (12, 7), (12, 8), (12, 9), (1, 10), (6, 5), (8, 999), (10, 999), (15, 999), (9, 999), (18, 999), (19, 999), (7, 999), (11, 999), (17, 999), (13, 999)] T H H' ∧ ∃ z : Int, some (vL z) = r ∧ ((-9223372036854775808) ≤ z ∧ z ≤ 9223372036854775807) ∧ (((z = -1) ∧ (H r0 8 = 0 ∨ 20000 < n) ∧ CEN T H' ce e d) ∨ ((H r0 8 ≠ 0 ∧ n ≤ 20000) ∧ (z = xsW e d (xlots d).toNat) ∧ CEN T H' ce e d))
set_option maxHeartbeats 4000000 in
theorem u_97 {kt : Nat → Option mc_E} {T : wq_T} {H : wq_H} {r0 : Nat} {cu : Nat} {wa : Nat} {ce : Nat} {e : xD} {d : xD} {n : Int} (hW : WT T H) (g0 : T.2.2.2 r0 = some 1) (qcu : H r0 6 = (cu : Int)) (gcu : T.2.2.2 cu = some 27) (qwa : H r0 2 = (wa : Int)) (gwa : T.2.2.2 wa = some 6) (qce : H r0 3 = (ce : Int)) (gce : T.2.2.2 ce = some 12) (p0 : ∀ i, i ≠ 13 → e i = d i) (p1 : XW d) (p2 : e 0 3 = d 0 3) (p3 : e 0 0 = d 0 0) (p4 : H r0 8 = 0 ∨ n = xlots d) (p5 : H r0 8 ≠ 0 ∨ (d 0 3 = 0 ∧ d 0 0 = 0)) (hCU_cu : CU T H cu e d n) (hCEN_ce : CEN T H ce e d) (hHDR_ce : HDR T H ce ) : wpc kt 6 97 [.ref r0] T H (uq_97 r0 cu wa ce e d n T H) := by
  refine wp_enter e97 (Nat.le_of_ble_eq_true rfl) rfl ?_
  have f0 : wfr [(12, 5), (12, 6), (12, 7), (12, 8), (12, 9), (1, 10), (6, 5), (8, 999), (10, 999), (15, 999), (9, 999), (18, 999), (19, 999), (7, 999), (11, 999), (17, 999), (13, 999)] T H H := wfr.rf
  show wp _ _ 97 0 [(0, .ref r0)] [] _ H _
  have u1050 := CU_k hCU_cu
  have b1051 : 0 ≤ H r0 8 ∧ H r0 8 ≤ 1 := hW.box g0 (n := 13) rfl (by decide) rfl
  refine wp_of e97 c97_0 (rw_aload_n (pc' := 1) (v := .ref r0) rfl rfl rfl ?_)
  refine wp_of e97 c97_1 (rw_aload_n (pc' := 2) (v := .ref r0) rfl rfl rfl ?_)
  refine wp_of e97 c97_2 (xg_I (pc' := 5) lf_0_58 hW g0 sh_1 (by decide) (by decide) ty_1_8 rfl rfl (fun b1052 b1053 => ?_))
  refine wp_of e97 c97_5 (xc_V (pc' := 8) (r := r0) (as := [vI (H r0 8)]) (st := []) (lm_0_174) rfl rfl (Nat.le_of_ble_eq_true rfl) hW g0 sh_1 (by decide) rfl (by decide) (u_83 (e := e) (d := d) (n := n) hW g0 ⟨by omega, by omega⟩ qcu gcu qwa gwa qce gce (by assumption) (by assumption) (by omega) (by omega) (by omega) hCU_cu hCEN_ce hHDR_ce) (fun R1054 T1055 H1056 p1057 => ?_))
  obtain ⟨e1058, w1060, f1061, z1062, e1059, b1063, p1064⟩ := p1057
  subst e1058
  subst e1059
  rcases p1064 with ⟨a1065, a1066, a1067, a1068, a1069, a1070⟩ | ⟨a1071, a1072, a1073⟩
  · have f1074 := f0.tr f1061 rfl
    show wp _ _ 97 8 [(0, .ref r0)] [vI z1062] _ H1056 _
    refine wp_of e97 c97_8 (rw_istore_n (pc' := 9) (z := z1062) (L' := [(1, vI z1062), (0, .ref r0)]) rfl rfl rfl ?_)
    refine wp_of e97 c97_9 (rw_iload_n (pc' := 10) (z := z1062) rfl rfl ?_)
    refine wp_of e97 c97_10 (rw_if_eq (p1 := 20) (p2 := 13) (by decide) rfl ⟨by omega, by omega⟩ (fun c1075 => ?_) (fun c1075 => ?_))
    · have _cbb := a1069
      have _cb := _cbb.1
      have _cb6 := _cbb.2.1
      have _cb8 := _cbb.2.2.1
      have _cb7 := _cbb.2.2.2.1
      have h1076 : CEM T H1056 ce (xwf e d) (xlots d).toNat := _cbb.2.2.2.2
      refine wp_of e97 c97_20 (rw_aload_n (pc' := 21) (v := .ref r0) rfl rfl rfl ?_)
      refine wp_of e97 c97_21 (rw_iconst (pc' := 22) rfl ?_)
      refine wp_of e97 c97_22 (xp_I (pc' := 25) lf_0_102 w1060 g0 sh_1 (by decide) (by decide) ty_1_10 rfl rfl (by omega) (by omega) ⟨by omega, by omega⟩ rfl (fun H1077 e1078 w1079 => ?_))
      have f1080 := f1074.put' e1078 g0 rfl
      have k1081 : H1077 r0 10 = 0 := wq_u_s e1078
      refine wp_of e97 c97_25 (rw_aload_n (pc' := 26) (v := .ref r0) rfl rfl rfl ?_)
      have k1082 : H1077 r0 3 = H r0 3 := ((wq_u_j e1078 rfl).trans (f1061 r0 3 _ g0 rfl))
      have q1083 : H1077 r0 3 = (ce : Int) := k1082.trans qce
      refine wp_of e97 c97_26 (xg_K (pc' := 29) lf_0_30 w1079 g0 sh_1 (by decide) (by decide) rfl q1083 rfl ?_)
      refine wp_of e97 c97_29 (xg_L (pc' := 32) lf_0_187 w1079 gce sh_12 (by decide) (by decide) ty_12_6 rfl rfl (fun b1084 b1085 => ?_))
      have h1086 : CEN T H1077 ce e d := (CEN_fr w1060 gce ((wfr.rf (l := [(1, 10)])).put' e1078 g0 rfl) rfl a1068)
      exact wp_lreturn e97 c97_32 rfl ⟨rfl, w1079, f1080, H1077 ce 6, rfl, ⟨by omega, by omega⟩, (Or.inr ⟨by omega, by omega, h1086⟩)⟩
    · exfalso
      omega
  · have f1087 := f0.tr f1061 rfl
    show wp _ _ 97 8 [(0, .ref r0)] [vI z1062] _ H1056 _
    refine wp_of e97 c97_8 (rw_istore_n (pc' := 9) (z := z1062) (L' := [(1, vI z1062), (0, .ref r0)]) rfl rfl rfl ?_)
    refine wp_of e97 c97_9 (rw_iload_n (pc' := 10) (z := z1062) rfl rfl ?_)
    refine wp_of e97 c97_10 (rw_if_eq (p1 := 20) (p2 := 13) (by decide) rfl ⟨by omega, by omega⟩ (fun c1088 => ?_) (fun c1088 => ?_))
    · exfalso
      omega
    · refine wp_of e97 c97_13 (rw_aload_n (pc' := 14) (v := .ref r0) rfl rfl rfl ?_)
      refine wp_of e97 c97_14 (rw_iload_n (pc' := 15) (z := z1062) rfl rfl ?_)
      refine wp_of e97 c97_15 (xc_V (pc' := 18) (r := r0) (as := [vI z1062]) (st := []) (lm_0_70) rfl rfl (Nat.le_of_ble_eq_true rfl) w1060 g0 sh_1 (by decide) rfl (by decide) (u_12  w1060 g0 ⟨by omega, by omega⟩) (fun R1089 T1090 H1091 p1092 => ?_))
      obtain ⟨e1093, w1095, f1096, z1097, e1094, b1098, p1099⟩ := p1092
      subst e1093
      subst e1094
      obtain ⟨a1100, a1101⟩ := p1099
      have f1102 := f1087.tr f1096 rfl
      show wp _ _ 97 18 [(1, vI z1062), (0, .ref r0)] [vI z1097] _ H1091 _
      refine wp_of e97 c97_18 (rw_i2l (pc' := 19) rfl ⟨by omega, by omega⟩ ?_)
      have h1103 : CEN T H1091 ce e d := (CEN_fr w1060 gce f1096 rfl a1073)
      exact wp_lreturn e97 c97_19 rfl ⟨rfl, w1095, f1102, z1097, rfl, ⟨by omega, by omega⟩, (Or.inl ⟨by omega, by omega, h1103⟩)⟩
/-! StrikeAwake.having(II)I  -/
abbrev uq_98 (r0 : Nat) (a1 : Int) (a2 : Int) (cu : Nat) (wa : Nat) (ce : Nat) (e : xD) (d : xD) (n : Int) (T : wq_T) (H : wq_H) : Option Value → wq_T → wq_H → Prop := fun r T' H' => T = T' ∧ WT T H' ∧ wfr [(12, 5), (12, 6), (12, 7), (12, 8), (12, 9), (1, 10), (6, 5), (8, 999), (10, 999), (15, 999), (9, 999), (18, 999), (19, 999), (7, 999), (11, 999), (17, 999), (13, 999)] T H H' ∧ ∃ z : Int, some (vI z) = r ∧ ((-2147483648) ≤ z ∧ z ≤ 2147483647) ∧ (((z = -1) ∧ ((a1 < 0 ∨ d 0 3 ≤ a1) ∨ a2 < 0 ∨ ((xsp d (a1).toNat).length : Int) ≤ a2 ∨ 20000 < n) ∧ CEN T H' ce e d) ∨ ((((0 ≤ a1 ∧ a1 < d 0 3) ∧ 0 ≤ a2 ∧ a2 < ((xsp d (a1).toNat).length : Int)) ∧ n ≤ 20000) ∧ (z = xhc e d (a1).toNat (a2).toNat (xlots d).toNat) ∧ CEN T H' ce e d))
set_option maxHeartbeats 4000000 in
theorem u_98 {kt : Nat → Option mc_E} {T : wq_T} {H : wq_H} {r0 : Nat} {a1 : Int} {a2 : Int} {cu : Nat} {wa : Nat} {ce : Nat} {e : xD} {d : xD} {n : Int} (hW : WT T H) (g0 : T.2.2.2 r0 = some 1) (i1 : (-2147483648) ≤ a1 ∧ a1 ≤ 2147483647) (i2 : (-2147483648) ≤ a2 ∧ a2 ≤ 2147483647) (qcu : H r0 6 = (cu : Int)) (gcu : T.2.2.2 cu = some 27) (qwa : H r0 2 = (wa : Int)) (gwa : T.2.2.2 wa = some 6) (qce : H r0 3 = (ce : Int)) (gce : T.2.2.2 ce = some 12) (p0 : ∀ i, i ≠ 13 → e i = d i) (p1 : XW d) (p2 : e 0 3 = d 0 3) (p3 : e 0 0 = d 0 0) (p4 : H r0 8 = 0 ∨ n = xlots d) (p5 : H r0 8 ≠ 0 ∨ (d 0 3 = 0 ∧ d 0 0 = 0)) (hCU_cu : CU T H cu e d n) (hCEN_ce : CEN T H ce e d) (hHDR_ce : HDR T H ce ) : wpc kt 6 98 [.ref r0, vI a1, vI a2] T H (uq_98 r0 a1 a2 cu wa ce e d n T H) := by
  refine wp_enter e98 (Nat.le_of_ble_eq_true rfl) rfl ?_
  have f0 : wfr [(12, 5), (12, 6), (12, 7), (12, 8), (12, 9), (1, 10), (6, 5), (8, 999), (10, 999), (15, 999), (9, 999), (18, 999), (19, 999), (7, 999), (11, 999), (17, 999), (13, 999)] T H H := wfr.rf
  show wp _ _ 98 0 [(0, .ref r0), (1, vI a1), (2, vI a2)] [] _ H _
  have u1139 := CU_k hCU_cu
  have b1140 : 0 ≤ H r0 8 ∧ H r0 8 ≤ 1 := hW.box g0 (n := 13) rfl (by decide) rfl
  refine wp_of e98 c98_0 (rw_aload_n (pc' := 1) (v := .ref r0) rfl rfl rfl ?_)
  refine wp_of e98 c98_1 (rw_aload_n (pc' := 2) (v := .ref r0) rfl rfl rfl ?_)
  refine wp_of e98 c98_2 (rw_iload_n (pc' := 3) (z := a1) rfl rfl ?_)
  refine wp_of e98 c98_3 (rw_iload_n (pc' := 4) (z := a2) rfl rfl ?_)
  refine wp_of e98 c98_4 (xc_V (pc' := 7) (r := r0) (as := [vI a1, vI a2]) (st := [.ref r0]) (lm_0_118) rfl rfl (Nat.le_of_ble_eq_true rfl) hW g0 sh_1 (by decide) rfl (by decide) (u_57 (e := e) (d := d) (n := n) hW g0 ⟨by omega, by omega⟩ ⟨by omega, by omega⟩ qcu gcu (by omega) (by omega) hCU_cu) (fun R1141 T1142 H1143 p1144 => ?_))
  obtain ⟨e1145, e1147, z1148, e1146, b1149, p1150⟩ := p1144
  subst e1145
  subst e1146
  subst e1147
  rcases p1150 with ⟨a1151, a1152⟩ | ⟨a1153, a1154⟩
  · show wp _ _ 98 7 [(0, .ref r0), (1, vI a1), (2, vI a2)] [vI z1148, .ref r0] _ H _
    refine wp_of e98 c98_7 (xc_V (pc' := 10) (r := r0) (as := [vI z1148]) (st := []) (lm_0_174) rfl rfl (Nat.le_of_ble_eq_true rfl) hW g0 sh_1 (by decide) rfl (by decide) (u_83 (e := e) (d := d) (n := n) hW g0 ⟨by omega, by omega⟩ qcu gcu qwa gwa qce gce (by assumption) (by assumption) (by omega) (by omega) (by omega) hCU_cu hCEN_ce hHDR_ce) (fun R1155 T1156 H1157 p1158 => ?_))
    obtain ⟨e1159, w1161, f1162, z1163, e1160, b1164, p1165⟩ := p1158
    subst e1159
    subst e1160
    rcases p1165 with ⟨a1166, a1167, a1168, a1169, a1170, a1171⟩ | ⟨a1172, a1173, a1174⟩
    · have f1175 := f0.tr f1162 rfl
      show wp _ _ 98 10 [(0, .ref r0), (1, vI a1), (2, vI a2)] [vI z1163] _ H1157 _
      refine wp_of e98 c98_10 (rw_istore_n (pc' := 11) (z := z1163) (L' := [(3, vI z1163), (0, .ref r0), (1, vI a1), (2, vI a2)]) rfl rfl rfl ?_)
      refine wp_of e98 c98_11 (rw_iload_n (pc' := 12) (z := z1163) rfl rfl ?_)
      refine wp_of e98 c98_12 (rw_if_eq (p1 := 21) (p2 := 15) (by decide) rfl ⟨by omega, by omega⟩ (fun c1176 => ?_) (fun c1176 => ?_))
      · have h1177 : HV1 T H1157 ce (d 0 3) (fun p i => xhc e d p i (xlots d).toNat) := (a1171).1
        refine wp_of e98 c98_21 (rw_aload_n (pc' := 22) (v := .ref r0) rfl rfl rfl ?_)
        refine wp_of e98 c98_22 (rw_aload_n (pc' := 23) (v := .ref r0) rfl rfl rfl ?_)
        have k1178 : H1157 r0 3 = H r0 3 := (f1162 r0 3 _ g0 rfl)
        have q1179 : H1157 r0 3 = (ce : Int) := k1178.trans qce
        refine wp_of e98 c98_23 (xg_K (pc' := 26) lf_0_30 w1161 g0 sh_1 (by decide) (by decide) rfl q1179 rfl ?_)
        refine wp_of e98 c98_26 (xg_R (pc' := 29) lf_0_190 w1161 gce sh_12 (by decide) (by decide) ty_12_1 rfl rfl (fun r1180 q1181 g1182 => ?_))
        refine wp_of e98 c98_29 (rw_iload_n (pc' := 30) (z := a1) rfl rfl ?_)
        refine wp_of e98 c98_30 (xa_R (pc' := 31) (by decide) w1161 g1182 sh_14 (by decide) (ty_14 _) (by omega) (by omega) rfl (fun r1183 q1184 g1185 => ?_))
        refine wp_of e98 c98_31 (rw_iload_n (pc' := 32) (z := a2) rfl rfl ?_)
        have _hl : H1157 r1183 (a2).toNat = xhc e d (a1).toNat (a2).toNat (xlots d).toNat := h1177 _ _ (a1).toNat (a2).toNat q1181 (by omega) (by omega) (by omega) q1184
        refine wp_of e98 c98_32 (xa_I (so := 0) (pc' := 33) w1161 g1185 sh_15 (by decide) (ty_15 _) (by omega) (by omega) rfl (fun b1186 b1187 => ?_))
        refine wp_of e98 c98_33 (xc_V (pc' := 36) (r := r0) (as := [vI (H1157 r1183 (a2.toNat))]) (st := []) (lm_0_99) rfl rfl (Nat.le_of_ble_eq_true rfl) w1161 g0 sh_1 (by decide) rfl (by decide) (u_51  w1161 g0 ⟨by omega, by omega⟩) (fun R1188 T1189 H1190 p1191 => ?_))
        obtain ⟨e1192, w1194, f1195, z1196, e1193, b1197, p1198⟩ := p1191
        subst e1192
        subst e1193
        obtain ⟨a1199, a1200⟩ := p1198
        have f1201 := f1175.tr f1195 rfl
        show wp _ _ 98 36 [(3, vI z1163), (0, .ref r0), (1, vI a1), (2, vI a2)] [vI z1196] _ H1190 _
        have h1202 : CEN T H1190 ce e d := (CEN_fr w1161 gce f1195 rfl a1169)
        exact wp_ireturn e98 c98_36 rfl ⟨rfl, w1194, f1201, z1196, rfl, ⟨by omega, by omega⟩, (Or.inr ⟨by omega, by omega, h1202⟩)⟩
      · exfalso
        omega
    · have f1203 := f0.tr f1162 rfl
      show wp _ _ 98 10 [(0, .ref r0), (1, vI a1), (2, vI a2)] [vI z1163] _ H1157 _
      refine wp_of e98 c98_10 (rw_istore_n (pc' := 11) (z := z1163) (L' := [(3, vI z1163), (0, .ref r0), (1, vI a1), (2, vI a2)]) rfl rfl rfl ?_)
      refine wp_of e98 c98_11 (rw_iload_n (pc' := 12) (z := z1163) rfl rfl ?_)
      refine wp_of e98 c98_12 (rw_if_eq (p1 := 21) (p2 := 15) (by decide) rfl ⟨by omega, by omega⟩ (fun c1204 => ?_) (fun c1204 => ?_))
      · exfalso
        omega
      · refine wp_of e98 c98_15 (rw_aload_n (pc' := 16) (v := .ref r0) rfl rfl rfl ?_)
        refine wp_of e98 c98_16 (rw_iload_n (pc' := 17) (z := z1163) rfl rfl ?_)
        refine wp_of e98 c98_17 (xc_V (pc' := 20) (r := r0) (as := [vI z1163]) (st := []) (lm_0_70) rfl rfl (Nat.le_of_ble_eq_true rfl) w1161 g0 sh_1 (by decide) rfl (by decide) (u_12  w1161 g0 ⟨by omega, by omega⟩) (fun R1205 T1206 H1207 p1208 => ?_))
        obtain ⟨e1209, w1211, f1212, z1213, e1210, b1214, p1215⟩ := p1208
        subst e1209
        subst e1210
        obtain ⟨a1216, a1217⟩ := p1215
        have f1218 := f1203.tr f1212 rfl
        show wp _ _ 98 20 [(3, vI z1163), (0, .ref r0), (1, vI a1), (2, vI a2)] [vI z1213] _ H1207 _
        have h1219 : CEN T H1207 ce e d := (CEN_fr w1161 gce f1212 rfl a1174)
        exact wp_ireturn e98 c98_20 rfl ⟨rfl, w1211, f1218, z1213, rfl, ⟨by omega, by omega⟩, (Or.inl ⟨by omega, by omega, h1219⟩)⟩
  · show wp _ _ 98 7 [(0, .ref r0), (1, vI a1), (2, vI a2)] [vI z1148, .ref r0] _ H _
    refine wp_of e98 c98_7 (xc_V (pc' := 10) (r := r0) (as := [vI z1148]) (st := []) (lm_0_174) rfl rfl (Nat.le_of_ble_eq_true rfl) hW g0 sh_1 (by decide) rfl (by decide) (u_83 (e := e) (d := d) (n := n) hW g0 ⟨by omega, by omega⟩ qcu gcu qwa gwa qce gce (by assumption) (by assumption) (by omega) (by omega) (by omega) hCU_cu hCEN_ce hHDR_ce) (fun R1220 T1221 H1222 p1223 => ?_))
    obtain ⟨e1224, w1226, f1227, z1228, e1225, b1229, p1230⟩ := p1223
    subst e1224
    subst e1225
    rcases p1230 with ⟨a1231, a1232, a1233, a1234, a1235, a1236⟩ | ⟨a1237, a1238, a1239⟩
    · have f1240 := f0.tr f1227 rfl
      show wp _ _ 98 10 [(0, .ref r0), (1, vI a1), (2, vI a2)] [vI z1228] _ H1222 _
      refine wp_of e98 c98_10 (rw_istore_n (pc' := 11) (z := z1228) (L' := [(3, vI z1228), (0, .ref r0), (1, vI a1), (2, vI a2)]) rfl rfl rfl ?_)
      refine wp_of e98 c98_11 (rw_iload_n (pc' := 12) (z := z1228) rfl rfl ?_)
      refine wp_of e98 c98_12 (rw_if_eq (p1 := 21) (p2 := 15) (by decide) rfl ⟨by omega, by omega⟩ (fun c1241 => ?_) (fun c1241 => ?_))
      · have h1242 : HV1 T H1222 ce (d 0 3) (fun p i => xhc e d p i (xlots d).toNat) := (a1236).1
        refine wp_of e98 c98_21 (rw_aload_n (pc' := 22) (v := .ref r0) rfl rfl rfl ?_)
        refine wp_of e98 c98_22 (rw_aload_n (pc' := 23) (v := .ref r0) rfl rfl rfl ?_)
        have k1243 : H1222 r0 3 = H r0 3 := (f1227 r0 3 _ g0 rfl)
        have q1244 : H1222 r0 3 = (ce : Int) := k1243.trans qce
        refine wp_of e98 c98_23 (xg_K (pc' := 26) lf_0_30 w1226 g0 sh_1 (by decide) (by decide) rfl q1244 rfl ?_)
        refine wp_of e98 c98_26 (xg_R (pc' := 29) lf_0_190 w1226 gce sh_12 (by decide) (by decide) ty_12_1 rfl rfl (fun r1245 q1246 g1247 => ?_))
        refine wp_of e98 c98_29 (rw_iload_n (pc' := 30) (z := a1) rfl rfl ?_)
        refine wp_of e98 c98_30 (xa_R (pc' := 31) (by decide) w1226 g1247 sh_14 (by decide) (ty_14 _) (by omega) (by omega) rfl (fun r1248 q1249 g1250 => ?_))
        refine wp_of e98 c98_31 (rw_iload_n (pc' := 32) (z := a2) rfl rfl ?_)
        have _hl : H1222 r1248 (a2).toNat = xhc e d (a1).toNat (a2).toNat (xlots d).toNat := h1242 _ _ (a1).toNat (a2).toNat q1246 (by omega) (by omega) (by omega) q1249
        refine wp_of e98 c98_32 (xa_I (so := 0) (pc' := 33) w1226 g1250 sh_15 (by decide) (ty_15 _) (by omega) (by omega) rfl (fun b1251 b1252 => ?_))
        refine wp_of e98 c98_33 (xc_V (pc' := 36) (r := r0) (as := [vI (H1222 r1248 (a2.toNat))]) (st := []) (lm_0_99) rfl rfl (Nat.le_of_ble_eq_true rfl) w1226 g0 sh_1 (by decide) rfl (by decide) (u_51  w1226 g0 ⟨by omega, by omega⟩) (fun R1253 T1254 H1255 p1256 => ?_))
        obtain ⟨e1257, w1259, f1260, z1261, e1258, b1262, p1263⟩ := p1256
        subst e1257
        subst e1258
        obtain ⟨a1264, a1265⟩ := p1263
        have f1266 := f1240.tr f1260 rfl
        show wp _ _ 98 36 [(3, vI z1228), (0, .ref r0), (1, vI a1), (2, vI a2)] [vI z1261] _ H1255 _
        have h1267 : CEN T H1255 ce e d := (CEN_fr w1226 gce f1260 rfl a1234)
        exact wp_ireturn e98 c98_36 rfl ⟨rfl, w1259, f1266, z1261, rfl, ⟨by omega, by omega⟩, (Or.inr ⟨by omega, by omega, h1267⟩)⟩
      · exfalso
        omega
    · have f1268 := f0.tr f1227 rfl
      show wp _ _ 98 10 [(0, .ref r0), (1, vI a1), (2, vI a2)] [vI z1228] _ H1222 _
      refine wp_of e98 c98_10 (rw_istore_n (pc' := 11) (z := z1228) (L' := [(3, vI z1228), (0, .ref r0), (1, vI a1), (2, vI a2)]) rfl rfl rfl ?_)
      refine wp_of e98 c98_11 (rw_iload_n (pc' := 12) (z := z1228) rfl rfl ?_)
      refine wp_of e98 c98_12 (rw_if_eq (p1 := 21) (p2 := 15) (by decide) rfl ⟨by omega, by omega⟩ (fun c1269 => ?_) (fun c1269 => ?_))
      · exfalso
        omega
      · refine wp_of e98 c98_15 (rw_aload_n (pc' := 16) (v := .ref r0) rfl rfl rfl ?_)
        refine wp_of e98 c98_16 (rw_iload_n (pc' := 17) (z := z1228) rfl rfl ?_)
        refine wp_of e98 c98_17 (xc_V (pc' := 20) (r := r0) (as := [vI z1228]) (st := []) (lm_0_70) rfl rfl (Nat.le_of_ble_eq_true rfl) w1226 g0 sh_1 (by decide) rfl (by decide) (u_12  w1226 g0 ⟨by omega, by omega⟩) (fun R1270 T1271 H1272 p1273 => ?_))
        obtain ⟨e1274, w1276, f1277, z1278, e1275, b1279, p1280⟩ := p1273
        subst e1274
        subst e1275
        obtain ⟨a1281, a1282⟩ := p1280
        have f1283 := f1268.tr f1277 rfl
        show wp _ _ 98 20 [(3, vI z1228), (0, .ref r0), (1, vI a1), (2, vI a2)] [vI z1278] _ H1272 _
        have h1284 : CEN T H1272 ce e d := (CEN_fr w1226 gce f1277 rfl a1239)
        exact wp_ireturn e98 c98_20 rfl ⟨rfl, w1276, f1283, z1278, rfl, ⟨by omega, by omega⟩, (Or.inl ⟨by omega, by omega, h1284⟩)⟩
/-! StrikeAwake.times(II)I  -/
abbrev uq_99 (r0 : Nat) (a1 : Int) (a2 : Int) (cu : Nat) (wa : Nat) (ce : Nat) (e : xD) (d : xD) (n : Int) (T : wq_T) (H : wq_H) : Option Value → wq_T → wq_H → Prop := fun r T' H' => T = T' ∧ WT T H' ∧ wfr [(12, 5), (12, 6), (12, 7), (12, 8), (12, 9), (1, 10), (6, 5), (8, 999), (10, 999), (15, 999), (9, 999), (18, 999), (19, 999), (7, 999), (11, 999), (17, 999), (13, 999)] T H H' ∧ ∃ z : Int, some (vI z) = r ∧ ((-2147483648) ≤ z ∧ z ≤ 2147483647) ∧ (((z = -1) ∧ (((a1 < 0 ∨ d 0 3 ≤ a1) ∨ a2 < 0 ∨ d 0 0 ≤ a2) ∨ 20000 < n) ∧ CEN T H' ce e d) ∨ ((((0 ≤ a1 ∧ a1 < d 0 3) ∧ 0 ≤ a2 ∧ a2 < d 0 0) ∧ n ≤ 20000) ∧ (z = xta e d (a1).toNat (a2).toNat) ∧ CEN T H' ce e d))
set_option maxHeartbeats 4000000 in
theorem u_99 {kt : Nat → Option mc_E} {T : wq_T} {H : wq_H} {r0 : Nat} {a1 : Int} {a2 : Int} {cu : Nat} {wa : Nat} {ce : Nat} {e : xD} {d : xD} {n : Int} (hW : WT T H) (g0 : T.2.2.2 r0 = some 1) (i1 : (-2147483648) ≤ a1 ∧ a1 ≤ 2147483647) (i2 : (-2147483648) ≤ a2 ∧ a2 ≤ 2147483647) (qcu : H r0 6 = (cu : Int)) (gcu : T.2.2.2 cu = some 27) (qwa : H r0 2 = (wa : Int)) (gwa : T.2.2.2 wa = some 6) (qce : H r0 3 = (ce : Int)) (gce : T.2.2.2 ce = some 12) (p0 : ∀ i, i ≠ 13 → e i = d i) (p1 : XW d) (p2 : e 0 3 = d 0 3) (p3 : e 0 0 = d 0 0) (p4 : H r0 8 = 0 ∨ n = xlots d) (p5 : H r0 8 ≠ 0 ∨ (d 0 3 = 0 ∧ d 0 0 = 0)) (hCU_cu : CU T H cu e d n) (hCEN_ce : CEN T H ce e d) (hHDR_ce : HDR T H ce ) : wpc kt 6 99 [.ref r0, vI a1, vI a2] T H (uq_99 r0 a1 a2 cu wa ce e d n T H) := by
  refine wp_enter e99 (Nat.le_of_ble_eq_true rfl) rfl ?_
  have f0 : wfr [(12, 5), (12, 6), (12, 7), (12, 8), (12, 9), (1, 10), (6, 5), (8, 999), (10, 999), (15, 999), (9, 999), (18, 999), (19, 999), (7, 999), (11, 999), (17, 999), (13, 999)] T H H := wfr.rf
  show wp _ _ 99 0 [(0, .ref r0), (1, vI a1), (2, vI a2)] [] _ H _
  have u1234 := CU_k hCU_cu
  have b1235 : 0 ≤ H r0 8 ∧ H r0 8 ≤ 1 := hW.box g0 (n := 13) rfl (by decide) rfl
  refine wp_of e99 c99_0 (rw_aload_n (pc' := 1) (v := .ref r0) rfl rfl rfl ?_)
  refine wp_of e99 c99_1 (rw_aload_n (pc' := 2) (v := .ref r0) rfl rfl rfl ?_)
  refine wp_of e99 c99_2 (rw_iload_n (pc' := 3) (z := a1) rfl rfl ?_)
  refine wp_of e99 c99_3 (xc_V (pc' := 6) (r := r0) (as := [vI a1]) (st := [.ref r0]) (lm_0_105) rfl rfl (Nat.le_of_ble_eq_true rfl) hW g0 sh_1 (by decide) rfl (by decide) (u_55  hW g0 ⟨by omega, by omega⟩ qcu gcu) (fun R1236 T1237 H1238 p1239 => ?_))
  obtain ⟨e1240, e1242, z1243, e1241, b1244, p1245⟩ := p1239
  subst e1240
  subst e1241
  subst e1242
  rcases p1245 with ⟨a1246, a1247⟩ | ⟨a1248, a1249⟩
  · show wp _ _ 99 6 [(0, .ref r0), (1, vI a1), (2, vI a2)] [vI z1243, .ref r0] _ H _
    refine wp_of e99 c99_6 (rw_if_eq (p1 := 21) (p2 := 9) (by decide) rfl ⟨by omega, by omega⟩ (fun c1250 => ?_) (fun c1250 => ?_))
    · exfalso
      omega
    · refine wp_of e99 c99_9 (rw_aload_n (pc' := 10) (v := .ref r0) rfl rfl rfl ?_)
      refine wp_of e99 c99_10 (rw_iload_n (pc' := 11) (z := a2) rfl rfl ?_)
      refine wp_of e99 c99_11 (xc_V (pc' := 14) (r := r0) (as := [vI a2]) (st := [.ref r0]) (lm_0_132) rfl rfl (Nat.le_of_ble_eq_true rfl) hW g0 sh_1 (by decide) rfl (by decide) (u_60  hW g0 ⟨by omega, by omega⟩ qcu gcu) (fun R1251 T1252 H1253 p1254 => ?_))
      obtain ⟨e1255, e1257, z1258, e1256, b1259, p1260⟩ := p1254
      subst e1255
      subst e1256
      subst e1257
      rcases p1260 with ⟨a1261, a1262⟩ | ⟨a1263, a1264⟩
      · show wp _ _ 99 14 [(0, .ref r0), (1, vI a1), (2, vI a2)] [vI z1258, .ref r0] _ H _
        refine wp_of e99 c99_14 (rw_if_eq (p1 := 21) (p2 := 17) (by decide) rfl ⟨by omega, by omega⟩ (fun c1265 => ?_) (fun c1265 => ?_))
        · exfalso
          omega
        · refine wp_of e99 c99_17 (rw_iconst (pc' := 18) rfl ?_)
          refine wp_of e99 c99_18 (rw_goto (p1 := 22) (by decide) ?_)
          refine wp_of e99 c99_22 (xc_V (pc' := 25) (r := r0) (as := [vI 1]) (st := []) (lm_0_174) rfl rfl (Nat.le_of_ble_eq_true rfl) hW g0 sh_1 (by decide) rfl (by decide) (u_83 (e := e) (d := d) (n := n) hW g0 ⟨by omega, by omega⟩ qcu gcu qwa gwa qce gce (by assumption) (by assumption) (by omega) (by omega) (by omega) hCU_cu hCEN_ce hHDR_ce) (fun R1266 T1267 H1268 p1269 => ?_))
          obtain ⟨e1270, w1272, f1273, z1274, e1271, b1275, p1276⟩ := p1269
          subst e1270
          subst e1271
          rcases p1276 with ⟨a1277, a1278, a1279, a1280, a1281, a1282⟩ | ⟨a1283, a1284, a1285⟩
          · have f1286 := f0.tr f1273 rfl
            show wp _ _ 99 25 [(0, .ref r0), (1, vI a1), (2, vI a2)] [vI z1274] _ H1268 _
            refine wp_of e99 c99_25 (rw_istore_n (pc' := 26) (z := z1274) (L' := [(3, vI z1274), (0, .ref r0), (1, vI a1), (2, vI a2)]) rfl rfl rfl ?_)
            refine wp_of e99 c99_26 (rw_iload_n (pc' := 27) (z := z1274) rfl rfl ?_)
            refine wp_of e99 c99_27 (rw_if_eq (p1 := 36) (p2 := 30) (by decide) rfl ⟨by omega, by omega⟩ (fun c1287 => ?_) (fun c1287 => ?_))
            · have h1288 : HV1 T H1268 ce (d 0 3) (fun p i => xhc e d p i (xlots d).toNat) := (a1282).1
              refine wp_of e99 c99_36 (rw_aload_n (pc' := 37) (v := .ref r0) rfl rfl rfl ?_)
              refine wp_of e99 c99_37 (rw_aload_n (pc' := 38) (v := .ref r0) rfl rfl rfl ?_)
              have k1289 : H1268 r0 3 = H r0 3 := (f1273 r0 3 _ g0 rfl)
              have q1290 : H1268 r0 3 = (ce : Int) := k1289.trans qce
              refine wp_of e99 c99_38 (xg_K (pc' := 41) lf_0_30 w1272 g0 sh_1 (by decide) (by decide) rfl q1290 rfl ?_)
              refine wp_of e99 c99_41 (rw_aload_n (pc' := 42) (v := .ref r0) rfl rfl rfl ?_)
              have k1291 : H1268 r0 6 = H r0 6 := (f1273 r0 6 _ g0 rfl)
              have q1292 : H1268 r0 6 = (cu : Int) := k1291.trans qcu
              refine wp_of e99 c99_42 (xg_K (pc' := 45) lf_0_51 w1272 g0 sh_1 (by decide) (by decide) rfl q1292 rfl ?_)
              refine wp_of e99 c99_45 (rw_iload_n (pc' := 46) (z := a1) rfl rfl ?_)
              refine wp_of e99 c99_46 (rw_iload_n (pc' := 47) (z := a2) rfl rfl ?_)
              have h1293 : CU T H1268 cu e d n := (CU_fr hW gcu f1273 rfl hCU_cu)
              refine wp_of e99 c99_47 (xc_V (pc' := 50) (r := ce) (as := [.ref cu, vI a1, vI a2]) (st := [.ref r0]) (lm_0_194) rfl rfl (Nat.le_of_ble_eq_true rfl) w1272 gce sh_12 (by decide) rfl (by decide) (u_100 (e := e) (d := d) (n := n) w1272 gce gcu ⟨by omega, by omega⟩ ⟨by omega, by omega⟩ (by assumption) (by assumption) (by omega) (by omega) (by omega) h1293 h1288) (fun R1294 T1295 H1296 p1297 => ?_))
              obtain ⟨e1298, e1300, z1301, e1299, b1302, p1303⟩ := p1297
              subst e1298
              subst e1299
              subst e1300
              show wp _ _ 99 50 [(3, vI z1274), (0, .ref r0), (1, vI a1), (2, vI a2)] [vI z1301, .ref r0] _ H1268 _
              refine wp_of e99 c99_50 (xc_V (pc' := 53) (r := r0) (as := [vI z1301]) (st := []) (lm_0_99) rfl rfl (Nat.le_of_ble_eq_true rfl) w1272 g0 sh_1 (by decide) rfl (by decide) (u_51  w1272 g0 ⟨by omega, by omega⟩) (fun R1305 T1306 H1307 p1308 => ?_))
              obtain ⟨e1309, w1311, f1312, z1313, e1310, b1314, p1315⟩ := p1308
              subst e1309
              subst e1310
              obtain ⟨a1316, a1317⟩ := p1315
              have f1318 := f1286.tr f1312 rfl
              show wp _ _ 99 53 [(3, vI z1274), (0, .ref r0), (1, vI a1), (2, vI a2)] [vI z1313] _ H1307 _
              have h1319 : CEN T H1307 ce e d := (CEN_fr w1272 gce f1312 rfl a1280)
              exact wp_ireturn e99 c99_53 rfl ⟨rfl, w1311, f1318, z1313, rfl, ⟨by omega, by omega⟩, (Or.inr ⟨by omega, by omega, h1319⟩)⟩
            · exfalso
              omega
          · have f1320 := f0.tr f1273 rfl
            show wp _ _ 99 25 [(0, .ref r0), (1, vI a1), (2, vI a2)] [vI z1274] _ H1268 _
            refine wp_of e99 c99_25 (rw_istore_n (pc' := 26) (z := z1274) (L' := [(3, vI z1274), (0, .ref r0), (1, vI a1), (2, vI a2)]) rfl rfl rfl ?_)
            refine wp_of e99 c99_26 (rw_iload_n (pc' := 27) (z := z1274) rfl rfl ?_)
            refine wp_of e99 c99_27 (rw_if_eq (p1 := 36) (p2 := 30) (by decide) rfl ⟨by omega, by omega⟩ (fun c1321 => ?_) (fun c1321 => ?_))
            · exfalso
              omega
            · refine wp_of e99 c99_30 (rw_aload_n (pc' := 31) (v := .ref r0) rfl rfl rfl ?_)
              refine wp_of e99 c99_31 (rw_iload_n (pc' := 32) (z := z1274) rfl rfl ?_)
              refine wp_of e99 c99_32 (xc_V (pc' := 35) (r := r0) (as := [vI z1274]) (st := []) (lm_0_70) rfl rfl (Nat.le_of_ble_eq_true rfl) w1272 g0 sh_1 (by decide) rfl (by decide) (u_12  w1272 g0 ⟨by omega, by omega⟩) (fun R1322 T1323 H1324 p1325 => ?_))
              obtain ⟨e1326, w1328, f1329, z1330, e1327, b1331, p1332⟩ := p1325
              subst e1326
              subst e1327
              obtain ⟨a1333, a1334⟩ := p1332
              have f1335 := f1320.tr f1329 rfl
              show wp _ _ 99 35 [(3, vI z1274), (0, .ref r0), (1, vI a1), (2, vI a2)] [vI z1330] _ H1324 _
              have h1336 : CEN T H1324 ce e d := (CEN_fr w1272 gce f1329 rfl a1285)
              exact wp_ireturn e99 c99_35 rfl ⟨rfl, w1328, f1335, z1330, rfl, ⟨by omega, by omega⟩, (Or.inl ⟨by omega, by omega, h1336⟩)⟩
      · show wp _ _ 99 14 [(0, .ref r0), (1, vI a1), (2, vI a2)] [vI z1258, .ref r0] _ H _
        refine wp_of e99 c99_14 (rw_if_eq (p1 := 21) (p2 := 17) (by decide) rfl ⟨by omega, by omega⟩ (fun c1337 => ?_) (fun c1337 => ?_))
        · refine wp_of e99 c99_21 (rw_iconst (pc' := 22) rfl ?_)
          refine wp_of e99 c99_22 (xc_V (pc' := 25) (r := r0) (as := [vI 0]) (st := []) (lm_0_174) rfl rfl (Nat.le_of_ble_eq_true rfl) hW g0 sh_1 (by decide) rfl (by decide) (u_83 (e := e) (d := d) (n := n) hW g0 ⟨by omega, by omega⟩ qcu gcu qwa gwa qce gce (by assumption) (by assumption) (by omega) (by omega) (by omega) hCU_cu hCEN_ce hHDR_ce) (fun R1338 T1339 H1340 p1341 => ?_))
          obtain ⟨e1342, w1344, f1345, z1346, e1343, b1347, p1348⟩ := p1341
          subst e1342
          subst e1343
          rcases p1348 with ⟨a1349, a1350, a1351, a1352, a1353, a1354⟩ | ⟨a1355, a1356, a1357⟩
          · have f1358 := f0.tr f1345 rfl
            show wp _ _ 99 25 [(0, .ref r0), (1, vI a1), (2, vI a2)] [vI z1346] _ H1340 _
            refine wp_of e99 c99_25 (rw_istore_n (pc' := 26) (z := z1346) (L' := [(3, vI z1346), (0, .ref r0), (1, vI a1), (2, vI a2)]) rfl rfl rfl ?_)
            refine wp_of e99 c99_26 (rw_iload_n (pc' := 27) (z := z1346) rfl rfl ?_)
            refine wp_of e99 c99_27 (rw_if_eq (p1 := 36) (p2 := 30) (by decide) rfl ⟨by omega, by omega⟩ (fun c1359 => ?_) (fun c1359 => ?_))
            · have h1360 : HV1 T H1340 ce (d 0 3) (fun p i => xhc e d p i (xlots d).toNat) := (a1354).1
              refine wp_of e99 c99_36 (rw_aload_n (pc' := 37) (v := .ref r0) rfl rfl rfl ?_)
              refine wp_of e99 c99_37 (rw_aload_n (pc' := 38) (v := .ref r0) rfl rfl rfl ?_)
              have k1361 : H1340 r0 3 = H r0 3 := (f1345 r0 3 _ g0 rfl)
              have q1362 : H1340 r0 3 = (ce : Int) := k1361.trans qce
              refine wp_of e99 c99_38 (xg_K (pc' := 41) lf_0_30 w1344 g0 sh_1 (by decide) (by decide) rfl q1362 rfl ?_)
              refine wp_of e99 c99_41 (rw_aload_n (pc' := 42) (v := .ref r0) rfl rfl rfl ?_)
              have k1363 : H1340 r0 6 = H r0 6 := (f1345 r0 6 _ g0 rfl)
              have q1364 : H1340 r0 6 = (cu : Int) := k1363.trans qcu
              refine wp_of e99 c99_42 (xg_K (pc' := 45) lf_0_51 w1344 g0 sh_1 (by decide) (by decide) rfl q1364 rfl ?_)
              refine wp_of e99 c99_45 (rw_iload_n (pc' := 46) (z := a1) rfl rfl ?_)
              refine wp_of e99 c99_46 (rw_iload_n (pc' := 47) (z := a2) rfl rfl ?_)
              have h1365 : CU T H1340 cu e d n := (CU_fr hW gcu f1345 rfl hCU_cu)
              refine wp_of e99 c99_47 (xc_V (pc' := 50) (r := ce) (as := [.ref cu, vI a1, vI a2]) (st := [.ref r0]) (lm_0_194) rfl rfl (Nat.le_of_ble_eq_true rfl) w1344 gce sh_12 (by decide) rfl (by decide) (u_100 (e := e) (d := d) (n := n) w1344 gce gcu ⟨by omega, by omega⟩ ⟨by omega, by omega⟩ (by assumption) (by assumption) (by omega) (by omega) (by omega) h1365 h1360) (fun R1366 T1367 H1368 p1369 => ?_))
              obtain ⟨e1370, e1372, z1373, e1371, b1374, p1375⟩ := p1369
              subst e1370
              subst e1371
              subst e1372
              show wp _ _ 99 50 [(3, vI z1346), (0, .ref r0), (1, vI a1), (2, vI a2)] [vI z1373, .ref r0] _ H1340 _
              refine wp_of e99 c99_50 (xc_V (pc' := 53) (r := r0) (as := [vI z1373]) (st := []) (lm_0_99) rfl rfl (Nat.le_of_ble_eq_true rfl) w1344 g0 sh_1 (by decide) rfl (by decide) (u_51  w1344 g0 ⟨by omega, by omega⟩) (fun R1377 T1378 H1379 p1380 => ?_))
              obtain ⟨e1381, w1383, f1384, z1385, e1382, b1386, p1387⟩ := p1380
              subst e1381
              subst e1382
              obtain ⟨a1388, a1389⟩ := p1387
              have f1390 := f1358.tr f1384 rfl
              show wp _ _ 99 53 [(3, vI z1346), (0, .ref r0), (1, vI a1), (2, vI a2)] [vI z1385] _ H1379 _
              have h1391 : CEN T H1379 ce e d := (CEN_fr w1344 gce f1384 rfl a1352)
              exact wp_ireturn e99 c99_53 rfl ⟨rfl, w1383, f1390, z1385, rfl, ⟨by omega, by omega⟩, (Or.inr ⟨by omega, by omega, h1391⟩)⟩
            · exfalso
              omega
          · have f1392 := f0.tr f1345 rfl
            show wp _ _ 99 25 [(0, .ref r0), (1, vI a1), (2, vI a2)] [vI z1346] _ H1340 _
            refine wp_of e99 c99_25 (rw_istore_n (pc' := 26) (z := z1346) (L' := [(3, vI z1346), (0, .ref r0), (1, vI a1), (2, vI a2)]) rfl rfl rfl ?_)
            refine wp_of e99 c99_26 (rw_iload_n (pc' := 27) (z := z1346) rfl rfl ?_)
            refine wp_of e99 c99_27 (rw_if_eq (p1 := 36) (p2 := 30) (by decide) rfl ⟨by omega, by omega⟩ (fun c1393 => ?_) (fun c1393 => ?_))
            · exfalso
              omega
            · refine wp_of e99 c99_30 (rw_aload_n (pc' := 31) (v := .ref r0) rfl rfl rfl ?_)
              refine wp_of e99 c99_31 (rw_iload_n (pc' := 32) (z := z1346) rfl rfl ?_)
              refine wp_of e99 c99_32 (xc_V (pc' := 35) (r := r0) (as := [vI z1346]) (st := []) (lm_0_70) rfl rfl (Nat.le_of_ble_eq_true rfl) w1344 g0 sh_1 (by decide) rfl (by decide) (u_12  w1344 g0 ⟨by omega, by omega⟩) (fun R1394 T1395 H1396 p1397 => ?_))
              obtain ⟨e1398, w1400, f1401, z1402, e1399, b1403, p1404⟩ := p1397
              subst e1398
              subst e1399
              obtain ⟨a1405, a1406⟩ := p1404
              have f1407 := f1392.tr f1401 rfl
              show wp _ _ 99 35 [(3, vI z1346), (0, .ref r0), (1, vI a1), (2, vI a2)] [vI z1402] _ H1396 _
              have h1408 : CEN T H1396 ce e d := (CEN_fr w1344 gce f1401 rfl a1357)
              exact wp_ireturn e99 c99_35 rfl ⟨rfl, w1400, f1407, z1402, rfl, ⟨by omega, by omega⟩, (Or.inl ⟨by omega, by omega, h1408⟩)⟩
        · exfalso
          omega
  · show wp _ _ 99 6 [(0, .ref r0), (1, vI a1), (2, vI a2)] [vI z1243, .ref r0] _ H _
    refine wp_of e99 c99_6 (rw_if_eq (p1 := 21) (p2 := 9) (by decide) rfl ⟨by omega, by omega⟩ (fun c1409 => ?_) (fun c1409 => ?_))
    · refine wp_of e99 c99_21 (rw_iconst (pc' := 22) rfl ?_)
      refine wp_of e99 c99_22 (xc_V (pc' := 25) (r := r0) (as := [vI 0]) (st := []) (lm_0_174) rfl rfl (Nat.le_of_ble_eq_true rfl) hW g0 sh_1 (by decide) rfl (by decide) (u_83 (e := e) (d := d) (n := n) hW g0 ⟨by omega, by omega⟩ qcu gcu qwa gwa qce gce (by assumption) (by assumption) (by omega) (by omega) (by omega) hCU_cu hCEN_ce hHDR_ce) (fun R1410 T1411 H1412 p1413 => ?_))
      obtain ⟨e1414, w1416, f1417, z1418, e1415, b1419, p1420⟩ := p1413
      subst e1414
      subst e1415
      rcases p1420 with ⟨a1421, a1422, a1423, a1424, a1425, a1426⟩ | ⟨a1427, a1428, a1429⟩
      · have f1430 := f0.tr f1417 rfl
        show wp _ _ 99 25 [(0, .ref r0), (1, vI a1), (2, vI a2)] [vI z1418] _ H1412 _
        refine wp_of e99 c99_25 (rw_istore_n (pc' := 26) (z := z1418) (L' := [(3, vI z1418), (0, .ref r0), (1, vI a1), (2, vI a2)]) rfl rfl rfl ?_)
        refine wp_of e99 c99_26 (rw_iload_n (pc' := 27) (z := z1418) rfl rfl ?_)
        refine wp_of e99 c99_27 (rw_if_eq (p1 := 36) (p2 := 30) (by decide) rfl ⟨by omega, by omega⟩ (fun c1431 => ?_) (fun c1431 => ?_))
        · have h1432 : HV1 T H1412 ce (d 0 3) (fun p i => xhc e d p i (xlots d).toNat) := (a1426).1
          refine wp_of e99 c99_36 (rw_aload_n (pc' := 37) (v := .ref r0) rfl rfl rfl ?_)
          refine wp_of e99 c99_37 (rw_aload_n (pc' := 38) (v := .ref r0) rfl rfl rfl ?_)
          have k1433 : H1412 r0 3 = H r0 3 := (f1417 r0 3 _ g0 rfl)
          have q1434 : H1412 r0 3 = (ce : Int) := k1433.trans qce
          refine wp_of e99 c99_38 (xg_K (pc' := 41) lf_0_30 w1416 g0 sh_1 (by decide) (by decide) rfl q1434 rfl ?_)
          refine wp_of e99 c99_41 (rw_aload_n (pc' := 42) (v := .ref r0) rfl rfl rfl ?_)
          have k1435 : H1412 r0 6 = H r0 6 := (f1417 r0 6 _ g0 rfl)
          have q1436 : H1412 r0 6 = (cu : Int) := k1435.trans qcu
          refine wp_of e99 c99_42 (xg_K (pc' := 45) lf_0_51 w1416 g0 sh_1 (by decide) (by decide) rfl q1436 rfl ?_)
          refine wp_of e99 c99_45 (rw_iload_n (pc' := 46) (z := a1) rfl rfl ?_)
          refine wp_of e99 c99_46 (rw_iload_n (pc' := 47) (z := a2) rfl rfl ?_)
          have h1437 : CU T H1412 cu e d n := (CU_fr hW gcu f1417 rfl hCU_cu)
          refine wp_of e99 c99_47 (xc_V (pc' := 50) (r := ce) (as := [.ref cu, vI a1, vI a2]) (st := [.ref r0]) (lm_0_194) rfl rfl (Nat.le_of_ble_eq_true rfl) w1416 gce sh_12 (by decide) rfl (by decide) (u_100 (e := e) (d := d) (n := n) w1416 gce gcu ⟨by omega, by omega⟩ ⟨by omega, by omega⟩ (by assumption) (by assumption) (by omega) (by omega) (by omega) h1437 h1432) (fun R1438 T1439 H1440 p1441 => ?_))
          obtain ⟨e1442, e1444, z1445, e1443, b1446, p1447⟩ := p1441
          subst e1442
          subst e1443
          subst e1444
          show wp _ _ 99 50 [(3, vI z1418), (0, .ref r0), (1, vI a1), (2, vI a2)] [vI z1445, .ref r0] _ H1412 _
          refine wp_of e99 c99_50 (xc_V (pc' := 53) (r := r0) (as := [vI z1445]) (st := []) (lm_0_99) rfl rfl (Nat.le_of_ble_eq_true rfl) w1416 g0 sh_1 (by decide) rfl (by decide) (u_51  w1416 g0 ⟨by omega, by omega⟩) (fun R1449 T1450 H1451 p1452 => ?_))
          obtain ⟨e1453, w1455, f1456, z1457, e1454, b1458, p1459⟩ := p1452
          subst e1453
          subst e1454
          obtain ⟨a1460, a1461⟩ := p1459
          have f1462 := f1430.tr f1456 rfl
          show wp _ _ 99 53 [(3, vI z1418), (0, .ref r0), (1, vI a1), (2, vI a2)] [vI z1457] _ H1451 _
          have h1463 : CEN T H1451 ce e d := (CEN_fr w1416 gce f1456 rfl a1424)
          exact wp_ireturn e99 c99_53 rfl ⟨rfl, w1455, f1462, z1457, rfl, ⟨by omega, by omega⟩, (Or.inr ⟨by omega, by omega, h1463⟩)⟩
        · exfalso
          omega
      · have f1464 := f0.tr f1417 rfl
        show wp _ _ 99 25 [(0, .ref r0), (1, vI a1), (2, vI a2)] [vI z1418] _ H1412 _
        refine wp_of e99 c99_25 (rw_istore_n (pc' := 26) (z := z1418) (L' := [(3, vI z1418), (0, .ref r0), (1, vI a1), (2, vI a2)]) rfl rfl rfl ?_)
        refine wp_of e99 c99_26 (rw_iload_n (pc' := 27) (z := z1418) rfl rfl ?_)
        refine wp_of e99 c99_27 (rw_if_eq (p1 := 36) (p2 := 30) (by decide) rfl ⟨by omega, by omega⟩ (fun c1465 => ?_) (fun c1465 => ?_))
        · exfalso
          omega
        · refine wp_of e99 c99_30 (rw_aload_n (pc' := 31) (v := .ref r0) rfl rfl rfl ?_)
          refine wp_of e99 c99_31 (rw_iload_n (pc' := 32) (z := z1418) rfl rfl ?_)
          refine wp_of e99 c99_32 (xc_V (pc' := 35) (r := r0) (as := [vI z1418]) (st := []) (lm_0_70) rfl rfl (Nat.le_of_ble_eq_true rfl) w1416 g0 sh_1 (by decide) rfl (by decide) (u_12  w1416 g0 ⟨by omega, by omega⟩) (fun R1466 T1467 H1468 p1469 => ?_))
          obtain ⟨e1470, w1472, f1473, z1474, e1471, b1475, p1476⟩ := p1469
          subst e1470
          subst e1471
          obtain ⟨a1477, a1478⟩ := p1476
          have f1479 := f1464.tr f1473 rfl
          show wp _ _ 99 35 [(3, vI z1418), (0, .ref r0), (1, vI a1), (2, vI a2)] [vI z1474] _ H1468 _
          have h1480 : CEN T H1468 ce e d := (CEN_fr w1416 gce f1473 rfl a1429)
          exact wp_ireturn e99 c99_35 rfl ⟨rfl, w1472, f1479, z1474, rfl, ⟨by omega, by omega⟩, (Or.inl ⟨by omega, by omega, h1480⟩)⟩
    · exfalso
      omega
