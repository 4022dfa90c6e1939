/-! what methods do (own work, written by wip/gen3/sx3.py) -/
/-! StrikeAwake$Reader.readsCustoms(LStrikeAwake$Parish;)Z  -/
abbrev uq_30 (r0 : Nat) (r1 : Nat) (tk : Nat) (rb : Nat) (B : Nat → Int) (n : Int) (q : Int) (d : xD) (y : Int) (T : wq_T) (H : wq_H) : Option Value → wq_T → wq_H → Prop := fun r T' H' => T = T' ∧ WT T H' ∧ wfr [(27, 10), (35, 11), (35, 12), (35, 13), (3, 1), (3, 2), (3, 3), (3, 4), (4, 2), (4, 3), (4, 4), (4, 5), (4, 6)] T H H' ∧ ∃ z : Int, some (vI z) = r ∧ (0 ≤ z ∧ z ≤ 1) ∧ (((z = 1) ∧ ((xcs B n q).1 = 0) ∧ (q ≤ (xcs B n q).2.2) ∧ (H' r0 3 = H r0 3) ∧ TC T H' tk B n (xcs B n q).2.2 ∧ DC T H' r1 (xdper B n y d)) ∨ ((z = 0) ∧ ((xcs B n q).1 ≠ 0) ∧ ((xcs B n q).2.2 = (xcs B n q).2.1) ∧ (H' r0 3 = (xcs B n q).1) ∧ (H' r0 4 = (xcs B n q).2.1)))
set_option maxHeartbeats 4000000 in
theorem u_30 {kt : Nat → Option mc_E} {T : wq_T} {H : wq_H} {r0 : Nat} {r1 : Nat} {tk : Nat} {rb : Nat} {B : Nat → Int} {n : Int} {q : Int} {d : xD} {y : Int} (hW : WT T H) (g0 : T.2.2.2 r0 = some 3) (g1 : T.2.2.2 r1 = some 27) (qtk : H r0 0 = (tk : Int)) (gtk : T.2.2.2 tk = some 4) (qrb : H tk 0 = (rb : Int)) (grb : T.2.2.2 rb = some 2) (p0 : d 0 3 ≤ 5) (p1 : q = (xN B n (xN B n (xN B n (xN B n (xN B n (xN B n (xN B n (xN B n (xN B n y)))))))))) (hTC_tk : TC T H tk B n q) (hDC_r1 : DC T H r1 d) (hDD_r1 : DD T H r1 ) (hPK_r1 : PK T H r1 B n y d) : wpc kt 4 30 [.ref r0, .ref r1] T H (uq_30 r0 r1 tk rb B n q d y T H) := by
  refine wp_enter e30 (Nat.le_of_ble_eq_true rfl) rfl ?_
  have f0 : wfr [(27, 10), (35, 11), (35, 12), (35, 13), (3, 1), (3, 2), (3, 3), (3, 4), (4, 2), (4, 3), (4, 4), (4, 5), (4, 6)] T H H := wfr.rf
  show wp _ _ 30 0 [(0, .ref r0), (1, .ref r1)] [] _ H _
  have u523 := TC_k hTC_tk
  have u524 := DC_k hDC_r1
  have h525 : ST T H r1 (d 13) := hDC_r1.2.2.1
  have h526 : SV T H r1 (d 13) 24 := hDC_r1.2.2.2.1
  have h527 : DA3 T H r1 (d 0 5) (d 12) := hDC_r1.2.2.2.2.1
  have h528 : DA4 T H r1 (d 0 6) (d 14) := hDC_r1.2.2.2.2.2.1
  have h529 : DA5 T H r1 (d 0 6) (d 15) := hDC_r1.2.2.2.2.2.2.1
  have h530 : DA6 T H r1 (d 0 7) (d 16) := hDC_r1.2.2.2.2.2.2.2
  have _z : xhs 0 0 = 0 := by decide
  have _l0 := p1
  refine wp_of e30 c30_0 (rw_aload_n (pc' := 1) (v := .ref r1) rfl rfl rfl ?_)
  refine wp_of e30 c30_1 (xg_R (pc' := 4) lf_1_143 hW g1 sh_27 (by decide) (by decide) ty_27_0 rfl rfl (fun r531 q532 g533 => ?_))
  refine wp_of e30 c30_4 (rw_aload_n (pc' := 5) (v := .ref r1) rfl rfl rfl ?_)
  refine wp_of e30 c30_5 (xg_I (pc' := 8) lf_1_44 hW g1 sh_27 (by decide) (by decide) ty_27_10 rfl rfl (fun b534 b535 => ?_))
  refine wp_of e30 c30_8 (xa_R (pc' := 9) (by decide) hW g533 sh_28 (by decide) (ty_28 _) (by omega) (by omega) rfl (fun r536 q537 g538 => ?_))
  refine wp_of e30 c30_9 (rw_astore_n (pc' := 10) (v := .ref r536) (L' := [(2, .ref r536), (0, .ref r0), (1, .ref r1)]) rfl rfl rfl rfl ?_)
  have _p := PK_k hPK_r1 q532 q537 (by omega)
  refine wp_of e30 c30_10 (rw_aload_n (pc' := 11) (v := .ref r0) rfl rfl rfl ?_)
  refine wp_of e30 c30_11 (xg_K (pc' := 14) lf_1_12 hW g0 sh_3 (by decide) (by decide) rfl qtk rfl ?_)
  refine wp_of e30 c30_14 (rw_gs (pc' := 17) (k := 24) rfl rfl rfl rfl ?_)
  have k539 : H 24 0 = ((40 : Nat) : Int) := (hW.2 24 _ (hW.1.2.2 8 (by decide))).2.2 0 (by decide) |> fun z => by have z1 : (40 : Int) ≤ H 24 0 ∧ H 24 0 ≤ 40 := z; omega
  refine wp_of e30 c30_17 (rw_getR (pc' := 20) (n := 2) (b := 40) (e := _) (lf_1_181).choose_spec.1 (lf_1_181).choose_spec.2.1 (hW.sh (hW.1.2.2 8 (by decide)) rfl) (by decide) rfl k539 rfl ?_)
  refine wp_of e30 c30_20 (xc_V (pc' := 23) (r := tk) (as := [.ref 40]) (st := []) (lm_1_185) rfl rfl (Nat.le_of_ble_eq_true rfl) hW gtk sh_4 (by decide) rfl (by decide) (u_19_t (B := B) (n := n) (q := q) (kk := 8423732) hW gtk rfl (by decide +kernel) hTC_tk) (fun R540 T541 H542 p543 => ?_))
  obtain ⟨e544, e546, z547, e545, b548, p549⟩ := p543
  subst e544
  subst e545
  subst e546
  rcases p549 with ⟨a550, a551⟩ | ⟨a552, a553⟩
  · show wp _ _ 30 23 [(2, .ref r536), (0, .ref r0), (1, .ref r1)] [vI z547] _ H _
    refine wp_of e30 c30_23 (rw_if_eq (p1 := 53) (p2 := 26) (by decide) rfl ⟨by omega, by omega⟩ (fun c554 => ?_) (fun c554 => ?_))
    · exfalso
      omega
    · refine wp_of e30 c30_26 (rw_aload_n (pc' := 27) (v := .ref r0) rfl rfl rfl ?_)
      refine wp_of e30 c30_27 (xg_K (pc' := 30) lf_1_12 hW g0 sh_3 (by decide) (by decide) rfl qtk rfl ?_)
      have h555 : TP T H rb B := TC_tp hTC_tk qrb
      refine wp_of e30 c30_30 (xc_V (pc' := 33) (r := tk) (as := []) (st := []) (lm_1_74) rfl rfl (Nat.le_of_ble_eq_true rfl) hW gtk sh_4 (by decide) rfl (by decide) (u_16 (B := B) (n := n) (a := (xE B n q)) (q := (xN B n q)) hW gtk qrb grb (by omega) (by omega) (by omega) (rfl) h555) (fun R556 T557 H558 p559 => ?_))
      obtain ⟨e560, w562, f563, e561, p564⟩ := p559
      subst e560
      subst e561
      have f566 := f0.tr f563 rfl
      show wp _ _ 30 33 [(2, .ref r536), (0, .ref r0), (1, .ref r1)] [] _ H558 _
      have u567 := TC_k p564
      refine wp_of e30 c30_33 (rw_aload_n (pc' := 34) (v := .ref r536) rfl rfl rfl ?_)
      refine wp_of e30 c30_34 (rw_aload_n (pc' := 35) (v := .ref r0) rfl rfl rfl ?_)
      refine wp_of e30 c30_35 (rw_iconst (pc' := 36) rfl ?_)
      refine wp_of e30 c30_36 (rw_bipush (pc' := 38) (z := 23) rfl (by decide) ?_)
      have k568 : H558 r0 0 = H r0 0 := (f563 r0 0 _ g0 rfl)
      have q569 : H558 r0 0 = (tk : Int) := k568.trans qtk
      have k570 : H558 tk 0 = H tk 0 := (f563 tk 0 _ gtk rfl)
      have q571 : H558 tk 0 = (rb : Int) := k570.trans qrb
      have k572 : H558 r0 3 = H r0 3 := (f563 r0 3 _ g0 rfl)
      refine wp_of e30 c30_38 (xc_V (pc' := 41) (r := r0) (as := [vI 0, vI 23]) (st := [.ref r536]) (lm_1_119) rfl rfl (Nat.le_of_ble_eq_true rfl) w562 g0 sh_3 (by decide) rfl (by decide) (u_24 (B := B) (n := n) (q := ((xN B n q))) (lo := 0) (hi := 23) w562 g0 ⟨by omega, by omega⟩ ⟨by omega, by omega⟩ q569 gtk q571 grb (by omega) (by omega) p564) (fun R573 T574 H575 p576 => ?_))
      obtain ⟨e577, w579, f580, z581, e578, b582, p583⟩ := p576
      subst e577
      subst e578
      rcases p583 with ⟨a584, a585, a586, a587, a588⟩ | ⟨a589, a590, a591, a592⟩
      · have f593 := f566.tr f580 rfl
        show wp _ _ 30 41 [(2, .ref r536), (0, .ref r0), (1, .ref r1)] [vI z581, .ref r536] _ H575 _
        have u594 := TC_k a588
        refine wp_of e30 c30_41 (xp_I (pc' := 44) lf_1_188 w579 g538 sh_35 (by decide) (by decide) ty_35_11 rfl rfl (by omega) (by omega) ⟨by omega, by omega⟩ rfl (fun H595 e596 w597 => ?_))
        have f598 := f593.put' e596 g538 rfl
        have k599 : H595 r536 11 = z581 := wq_u_s e596
        refine wp_of e30 c30_44 (rw_aload_n (pc' := 45) (v := .ref r536) rfl rfl rfl ?_)
        refine wp_of e30 c30_45 (xg_I (pc' := 48) lf_1_188 w597 g538 sh_35 (by decide) (by decide) ty_35_11 rfl rfl (fun b600 b601 => ?_))
        refine wp_of e30 c30_48 (rw_if_ge (p1 := 53) (p2 := 51) (by decide) rfl ⟨by omega, by omega⟩ (fun c602 => ?_) (fun c602 => ?_))
        · have _ea : xqa B n q = ((xN B n ((xN B n q)))) := by
            unfold xqa
            first | rw [if_pos (by omega)] | rw [if_neg (by omega)]
          have k603 : H595 r536 6 = H r536 6 := ((wq_u_j e596 rfl).trans ((f580 r536 6 _ g538 rfl).trans (f563 r536 6 _ g538 rfl)))
          have k604 : H595 r536 7 = H r536 7 := ((wq_u_j e596 rfl).trans ((f580 r536 7 _ g538 rfl).trans (f563 r536 7 _ g538 rfl)))
          have k605 : H595 r536 8 = H r536 8 := ((wq_u_j e596 rfl).trans ((f580 r536 8 _ g538 rfl).trans (f563 r536 8 _ g538 rfl)))
          have k606 : H595 r536 9 = H r536 9 := ((wq_u_j e596 rfl).trans ((f580 r536 9 _ g538 rfl).trans (f563 r536 9 _ g538 rfl)))
          have k607 : H595 r536 10 = H r536 10 := ((wq_u_j e596 rfl).trans ((f580 r536 10 _ g538 rfl).trans (f563 r536 10 _ g538 rfl)))
          have k608 : H595 r536 12 = H r536 12 := ((wq_u_j e596 rfl).trans ((f580 r536 12 _ g538 rfl).trans (f563 r536 12 _ g538 rfl)))
          have k609 : H595 r536 13 = H r536 13 := ((wq_u_j e596 rfl).trans ((f580 r536 13 _ g538 rfl).trans (f563 r536 13 _ g538 rfl)))
          have k610 : H595 r536 14 = H r536 14 := ((wq_u_j e596 rfl).trans ((f580 r536 14 _ g538 rfl).trans (f563 r536 14 _ g538 rfl)))
          have _eh : xhb B n q = H595 r536 11 := by
            unfold xhb
            first | (rw [if_pos (by omega)]; omega) | (rw [if_neg (by omega)]; omega)
          refine wp_of e30 c30_53 (rw_aload_n (pc' := 54) (v := .ref r0) rfl rfl rfl ?_)
          have k611 : H595 r0 0 = H558 r0 0 := ((wq_u_t e596 g538 g0 rfl 0).trans (f580 r0 0 _ g0 rfl))
          have q612 : H595 r0 0 = (tk : Int) := k611.trans q569
          refine wp_of e30 c30_54 (xg_K (pc' := 57) lf_1_12 w597 g0 sh_3 (by decide) (by decide) rfl q612 rfl ?_)
          refine wp_of e30 c30_57 (rw_gs (pc' := 60) (k := 25) rfl rfl rfl rfl ?_)
          have k613 : H595 25 0 = ((41 : Nat) : Int) := (w597.2 25 _ (w597.1.2.2 9 (by decide))).2.2 0 (by decide) |> fun z => by have z1 : (41 : Int) ≤ H595 25 0 ∧ H595 25 0 ≤ 41 := z; omega
          refine wp_of e30 c30_60 (rw_getR (pc' := 63) (n := 2) (b := 41) (e := _) (lf_1_181).choose_spec.1 (lf_1_181).choose_spec.2.1 (w597.sh (w597.1.2.2 9 (by decide)) rfl) (by decide) rfl k613 rfl ?_)
          have h614 : TC T H595 tk B n (xN B n ((xN B n q))) := (TC_fr w579 gtk ((wfr.rf (l := [(35, 11)])).put' e596 g538 rfl) rfl a588)
          refine wp_of e30 c30_63 (xc_V (pc' := 66) (r := tk) (as := [.ref 41]) (st := []) (lm_1_185) rfl rfl (Nat.le_of_ble_eq_true rfl) w597 gtk sh_4 (by decide) rfl (by decide) (u_19_t (B := B) (n := n) (q := ((xN B n ((xN B n q))))) (kk := 14384) w597 gtk rfl (by decide +kernel) h614) (fun R615 T616 H617 p618 => ?_))
          obtain ⟨e619, e621, z622, e620, b623, p624⟩ := p618
          subst e619
          subst e620
          subst e621
          rcases p624 with ⟨a625, a626⟩ | ⟨a627, a628⟩
          · show wp _ _ 30 66 [(2, .ref r536), (0, .ref r0), (1, .ref r1)] [vI z622] _ H595 _
            refine wp_of e30 c30_66 (rw_if_eq (p1 := 107) (p2 := 69) (by decide) rfl ⟨by omega, by omega⟩ (fun c629 => ?_) (fun c629 => ?_))
            · exfalso
              omega
            · refine wp_of e30 c30_69 (rw_aload_n (pc' := 70) (v := .ref r0) rfl rfl rfl ?_)
              refine wp_of e30 c30_70 (xg_K (pc' := 73) lf_1_12 w597 g0 sh_3 (by decide) (by decide) rfl q612 rfl ?_)
              have k630 : H595 tk 0 = H558 tk 0 := ((wq_u_t e596 g538 gtk rfl 0).trans (f580 tk 0 _ gtk rfl))
              have q631 : H595 tk 0 = (rb : Int) := k630.trans q571
              have k632 : H595 tk 1 = H575 tk 1 := (wq_u_t e596 g538 gtk rfl 1)
              have k633 : H595 tk 2 = H575 tk 2 := (wq_u_t e596 g538 gtk rfl 2)
              have h634 : TP T H595 rb B := (TP_fr w579 grb ((wfr.rf (l := [(35, 11)])).put' e596 g538 rfl) rfl (TP_fr w562 grb f580 rfl (TP_fr hW grb f563 rfl h555)))
              refine wp_of e30 c30_73 (xc_V (pc' := 76) (r := tk) (as := []) (st := []) (lm_1_74) rfl rfl (Nat.le_of_ble_eq_true rfl) w597 gtk sh_4 (by decide) rfl (by decide) (u_16 (B := B) (n := n) (a := (xE B n ((xN B n ((xN B n q)))))) (q := (xN B n ((xN B n ((xN B n q)))))) w597 gtk q631 grb (by omega) (by omega) (by omega) (rfl) h634) (fun R635 T636 H637 p638 => ?_))
              obtain ⟨e639, w641, f642, e640, p643⟩ := p638
              subst e639
              subst e640
              have f645 := f598.tr f642 rfl
              show wp _ _ 30 76 [(2, .ref r536), (0, .ref r0), (1, .ref r1)] [] _ H637 _
              have u646 := TC_k p643
              refine wp_of e30 c30_76 (rw_aload_n (pc' := 77) (v := .ref r0) rfl rfl rfl ?_)
              refine wp_of e30 c30_77 (rw_bipush (pc' := 79) (z := 23) rfl (by decide) ?_)
              refine wp_of e30 c30_79 (rw_iconst (pc' := 80) rfl ?_)
              refine wp_of e30 c30_80 (rw_bipush (pc' := 82) (z := 24) rfl (by decide) ?_)
              refine wp_of e30 c30_82 (rw_bipush (pc' := 84) (z := 24) rfl (by decide) ?_)
              have k647 : H637 r0 0 = H595 r0 0 := (f642 r0 0 _ g0 rfl)
              have q648 : H637 r0 0 = (tk : Int) := k647.trans q612
              have k649 : H637 tk 0 = H595 tk 0 := (f642 tk 0 _ gtk rfl)
              have q650 : H637 tk 0 = (rb : Int) := k649.trans q631
              have k651 : H637 r0 3 = H575 r0 3 := ((f642 r0 3 _ g0 rfl).trans (wq_u_t e596 g538 g0 rfl 3))
              refine wp_of e30 c30_84 (xc_V (pc' := 87) (r := r0) (as := [vI 23, vI 1, vI 24, vI 24]) (st := []) (lm_1_154) rfl rfl (Nat.le_of_ble_eq_true rfl) w641 g0 sh_3 (by decide) rfl (by decide) (u_29 (B := B) (n := n) (q := ((xN B n ((xN B n ((xN B n q))))))) w641 g0 ⟨by omega, by omega⟩ ⟨by omega, by omega⟩ ⟨by omega, by omega⟩ ⟨by omega, by omega⟩ q648 gtk q650 grb p643) (fun R652 T653 H654 p655 => ?_))
              obtain ⟨e656, w658, f659, z660, e657, b661, p662⟩ := p655
              subst e656
              subst e657
              rcases p662 with ⟨a663, a664, a665, a666, a667, a668, a669, a670, a671⟩ | ⟨a672, a673, a674, a675, a676⟩
              · have f677 := f645.tr f659 rfl
                show wp _ _ 30 87 [(2, .ref r536), (0, .ref r0), (1, .ref r1)] [vI z660] _ H654 _
                have u678 := TC_k a671
                refine wp_of e30 c30_87 (rw_if_ne (p1 := 92) (p2 := 90) (by decide) rfl ⟨by omega, by omega⟩ (fun c679 => ?_) (fun c679 => ?_))
                · refine wp_of e30 c30_92 (rw_aload_n (pc' := 93) (v := .ref r536) rfl rfl rfl ?_)
                  refine wp_of e30 c30_93 (rw_aload_n (pc' := 94) (v := .ref r0) rfl rfl rfl ?_)
                  refine wp_of e30 c30_94 (xg_I (pc' := 97) lf_1_158 w658 g0 sh_3 (by decide) (by decide) ty_3_1 rfl rfl (fun b680 b681 => ?_))
                  refine wp_of e30 c30_97 (rw_aload_n (pc' := 98) (v := .ref r0) rfl rfl rfl ?_)
                  refine wp_of e30 c30_98 (xg_I (pc' := 101) lf_1_164 w658 g0 sh_3 (by decide) (by decide) ty_3_2 rfl rfl (fun b682 b683 => ?_))
                  refine wp_of e30 c30_101 (xc_S (pc' := 104) (as := [vI (H654 r0 1), vI (H654 r0 2)]) (st := [.ref r536]) (lm_1_194) rfl rfl (Nat.le_of_ble_eq_true rfl) rfl (by decide) (u_31 (lo := (xV B n (xN B n ((xN B n ((xN B n q))))))) (hi := (xV B n (xN B n (xN B n (xN B n ((xN B n ((xN B n q))))))))) w658 ⟨by omega, by omega⟩ ⟨by omega, by omega⟩ (by omega) (by omega) (by omega)) (fun R684 T685 H686 p687 => ?_))
                  obtain ⟨e688, e690, z691, e689, b692, p693⟩ := p687
                  subst e688
                  subst e689
                  subst e690
                  show wp _ _ 30 104 [(2, .ref r536), (0, .ref r0), (1, .ref r1)] [vI z691, .ref r536] _ H654 _
                  refine wp_of e30 c30_104 (xp_I (pc' := 107) lf_1_197 w658 g538 sh_35 (by decide) (by decide) ty_35_12 rfl rfl (by omega) (by omega) ⟨by omega, by omega⟩ rfl (fun H695 e696 w697 => ?_))
                  have f698 := f677.put' e696 g538 rfl
                  have k699 : H695 r536 12 = z691 := wq_u_s e696
                  have _eb : xqb B n ((xN B n ((xN B n q)))) = ((xN B n (xN B n (xN B n ((xN B n ((xN B n ((xN B n q)))))))))) := by
                    unfold xqb
                    first | rw [if_pos (by omega)] | rw [if_neg (by omega)]
                  have k700 : H695 r536 6 = H595 r536 6 := ((wq_u_j e696 rfl).trans ((f659 r536 6 _ g538 rfl).trans (f642 r536 6 _ g538 rfl)))
                  have k701 : H695 r536 7 = H595 r536 7 := ((wq_u_j e696 rfl).trans ((f659 r536 7 _ g538 rfl).trans (f642 r536 7 _ g538 rfl)))
                  have k702 : H695 r536 8 = H595 r536 8 := ((wq_u_j e696 rfl).trans ((f659 r536 8 _ g538 rfl).trans (f642 r536 8 _ g538 rfl)))
                  have k703 : H695 r536 9 = H595 r536 9 := ((wq_u_j e696 rfl).trans ((f659 r536 9 _ g538 rfl).trans (f642 r536 9 _ g538 rfl)))
                  have k704 : H695 r536 10 = H595 r536 10 := ((wq_u_j e696 rfl).trans ((f659 r536 10 _ g538 rfl).trans (f642 r536 10 _ g538 rfl)))
                  have k705 : H695 r536 11 = H595 r536 11 := ((wq_u_j e696 rfl).trans ((f659 r536 11 _ g538 rfl).trans (f642 r536 11 _ g538 rfl)))
                  have k706 : H695 r536 13 = H595 r536 13 := ((wq_u_j e696 rfl).trans ((f659 r536 13 _ g538 rfl).trans (f642 r536 13 _ g538 rfl)))
                  have k707 : H695 r536 14 = H595 r536 14 := ((wq_u_j e696 rfl).trans ((f659 r536 14 _ g538 rfl).trans (f642 r536 14 _ g538 rfl)))
                  have _en : H695 r536 12 = xhs (xnf B n ((xN B n ((xN B n q))))) (xnt B n ((xN B n ((xN B n q))))) := by
                    unfold xnf xnt
                    first | (rw [if_pos (by omega), if_pos (by omega)]; omega) | (rw [if_neg (by omega), if_neg (by omega)]; omega)
                  refine wp_of e30 c30_107 (rw_aload_n (pc' := 108) (v := .ref r0) rfl rfl rfl ?_)
                  have k708 : H695 r0 0 = H637 r0 0 := ((wq_u_t e696 g538 g0 rfl 0).trans (f659 r0 0 _ g0 rfl))
                  have q709 : H695 r0 0 = (tk : Int) := k708.trans q648
                  refine wp_of e30 c30_108 (xg_K (pc' := 111) lf_1_12 w697 g0 sh_3 (by decide) (by decide) rfl q709 rfl ?_)
                  refine wp_of e30 c30_111 (rw_gs (pc' := 114) (k := 26) rfl rfl rfl rfl ?_)
                  have k710 : H695 26 0 = ((42 : Nat) : Int) := (w697.2 26 _ (w697.1.2.2 10 (by decide))).2.2 0 (by decide) |> fun z => by have z1 : (42 : Int) ≤ H695 26 0 ∧ H695 26 0 ≤ 42 := z; omega
                  refine wp_of e30 c30_114 (rw_getR (pc' := 117) (n := 2) (b := 42) (e := _) (lf_1_181).choose_spec.1 (lf_1_181).choose_spec.2.1 (w697.sh (w697.1.2.2 10 (by decide)) rfl) (by decide) rfl k710 rfl ?_)
                  have h711 : TC T H695 tk B n (xN B n (xN B n (xN B n ((xN B n ((xN B n ((xN B n q))))))))) := (TC_fr w658 gtk ((wfr.rf (l := [(35, 12)])).put' e696 g538 rfl) rfl a671)
                  refine wp_of e30 c30_117 (xc_V (pc' := 120) (r := tk) (as := [.ref 42]) (st := []) (lm_1_185) rfl rfl (Nat.le_of_ble_eq_true rfl) w697 gtk sh_4 (by decide) rfl (by decide) (u_19_t (B := B) (n := n) (q := ((xN B n (xN B n (xN B n ((xN B n ((xN B n ((xN B n q))))))))))) (kk := 56377) w697 gtk rfl (by decide +kernel) h711) (fun R712 T713 H714 p715 => ?_))
                  obtain ⟨e716, e718, z719, e717, b720, p721⟩ := p715
                  subst e716
                  subst e717
                  subst e718
                  rcases p721 with ⟨a722, a723⟩ | ⟨a724, a725⟩
                  · show wp _ _ 30 120 [(2, .ref r536), (0, .ref r0), (1, .ref r1)] [vI z719] _ H695 _
                    refine wp_of e30 c30_120 (rw_if_eq (p1 := 135) (p2 := 123) (by decide) rfl ⟨by omega, by omega⟩ (fun c726 => ?_) (fun c726 => ?_))
                    · exfalso
                      omega
                    · refine wp_of e30 c30_123 (rw_aload_n (pc' := 124) (v := .ref r0) rfl rfl rfl ?_)
                      refine wp_of e30 c30_124 (xg_K (pc' := 127) lf_1_12 w697 g0 sh_3 (by decide) (by decide) rfl q709 rfl ?_)
                      have k727 : H695 tk 0 = H637 tk 0 := ((wq_u_t e696 g538 gtk rfl 0).trans (f659 tk 0 _ gtk rfl))
                      have q728 : H695 tk 0 = (rb : Int) := k727.trans q650
                      have k729 : H695 tk 1 = H654 tk 1 := (wq_u_t e696 g538 gtk rfl 1)
                      have k730 : H695 tk 2 = H654 tk 2 := (wq_u_t e696 g538 gtk rfl 2)
                      have h731 : TP T H695 rb B := (TP_fr w658 grb ((wfr.rf (l := [(35, 12)])).put' e696 g538 rfl) rfl (TP_fr w641 grb f659 rfl (TP_fr w597 grb f642 rfl h634)))
                      refine wp_of e30 c30_127 (xc_V (pc' := 130) (r := tk) (as := []) (st := []) (lm_1_74) rfl rfl (Nat.le_of_ble_eq_true rfl) w697 gtk sh_4 (by decide) rfl (by decide) (u_16 (B := B) (n := n) (a := (xE B n ((xN B n (xN B n (xN B n ((xN B n ((xN B n ((xN B n q)))))))))))) (q := (xN B n ((xN B n (xN B n (xN B n ((xN B n ((xN B n ((xN B n q)))))))))))) w697 gtk q728 grb (by omega) (by omega) (by omega) (rfl) h731) (fun R732 T733 H734 p735 => ?_))
                      obtain ⟨e736, w738, f739, e737, p740⟩ := p735
                      subst e736
                      subst e737
                      have f742 := f698.tr f739 rfl
                      show wp _ _ 30 130 [(2, .ref r536), (0, .ref r0), (1, .ref r1)] [] _ H734 _
                      have u743 := TC_k p740
                      refine wp_of e30 c30_130 (rw_aload_n (pc' := 131) (v := .ref r536) rfl rfl rfl ?_)
                      refine wp_of e30 c30_131 (rw_iconst (pc' := 132) rfl ?_)
                      refine wp_of e30 c30_132 (xp_Z (pc' := 135) lf_1_203 w738 g538 sh_35 (by decide) (by decide) ty_35_13 rfl rfl (by omega) (by omega) rfl (fun H744 e745 w746 => ?_))
                      have f747 := f742.put' e745 g538 rfl
                      have k748 : H744 r536 13 = 1 := wq_u_s e745
                      have _ec : xqc B n ((xN B n (xN B n (xN B n ((xN B n ((xN B n ((xN B n q)))))))))) = ((xN B n ((xN B n (xN B n (xN B n ((xN B n ((xN B n ((xN B n q)))))))))))) := by
                        unfold xqc
                        first | rw [if_pos (by omega)] | rw [if_neg (by omega)]
                      have k749 : H744 r536 6 = H695 r536 6 := ((wq_u_j e745 rfl).trans (f739 r536 6 _ g538 rfl))
                      have k750 : H744 r536 7 = H695 r536 7 := ((wq_u_j e745 rfl).trans (f739 r536 7 _ g538 rfl))
                      have k751 : H744 r536 8 = H695 r536 8 := ((wq_u_j e745 rfl).trans (f739 r536 8 _ g538 rfl))
                      have k752 : H744 r536 9 = H695 r536 9 := ((wq_u_j e745 rfl).trans (f739 r536 9 _ g538 rfl))
                      have k753 : H744 r536 10 = H695 r536 10 := ((wq_u_j e745 rfl).trans (f739 r536 10 _ g538 rfl))
                      have k754 : H744 r536 11 = H695 r536 11 := ((wq_u_j e745 rfl).trans (f739 r536 11 _ g538 rfl))
                      have k755 : H744 r536 12 = H695 r536 12 := ((wq_u_j e745 rfl).trans (f739 r536 12 _ g538 rfl))
                      have k756 : H744 r536 14 = H695 r536 14 := ((wq_u_j e745 rfl).trans (f739 r536 14 _ g538 rfl))
                      have _ew : xaw B n ((xN B n (xN B n (xN B n ((xN B n ((xN B n ((xN B n q)))))))))) = H744 r536 13 := by
                        unfold xaw
                        first | (rw [if_pos (by omega)]; omega) | (rw [if_neg (by omega)]; omega)
                      refine wp_of e30 c30_135 (rw_aload_n (pc' := 136) (v := .ref r1) rfl rfl rfl ?_)
                      refine wp_of e30 c30_136 (rw_dup (pc' := 137) rfl rfl ?_)
                      have k757 : H744 r1 10 = H r1 10 := ((wq_u_t e745 g538 g1 rfl 10).trans ((f739 r1 10 _ g1 rfl).trans ((wq_u_t e696 g538 g1 rfl 10).trans ((f659 r1 10 _ g1 rfl).trans ((f642 r1 10 _ g1 rfl).trans ((wq_u_t e596 g538 g1 rfl 10).trans ((f580 r1 10 _ g1 rfl).trans (f563 r1 10 _ g1 rfl))))))))
                      refine wp_of e30 c30_137 (xg_I (pc' := 140) lf_1_44 w746 g1 sh_27 (by decide) (by decide) ty_27_10 rfl rfl (fun b758 b759 => ?_))
                      refine wp_of e30 c30_140 (rw_iconst (pc' := 141) rfl ?_)
                      refine wp_of e30 c30_141 (rw_iadd (pc' := 142) rfl ?_)
                      refine wp_of e30 c30_142 (xp_I (pc' := 145) lf_1_44 w746 g1 sh_27 (by decide) (by decide) ty_27_10 rfl rfl (by omega) (by omega) ⟨by omega, by omega⟩ rfl (fun H760 e761 w762 => ?_))
                      have f763 := f747.put' e761 g1 rfl
                      have k764 : H760 r1 10 = (H744 r1 10) + 1 := wq_u_s e761
                      refine wp_of e30 c30_145 (rw_iconst (pc' := 146) rfl ?_)
                      have k765 : H760 r0 3 = H654 r0 3 := ((wq_u_t e761 g1 g0 rfl 3).trans ((wq_u_t e745 g538 g0 rfl 3).trans ((f739 r0 3 _ g0 rfl).trans (wq_u_t e696 g538 g0 rfl 3))))
                      have k766 : H760 r1 7 = H r1 7 := ((wq_u_j e761 rfl).trans ((wq_u_t e745 g538 g1 rfl 7).trans ((f739 r1 7 _ g1 rfl).trans ((wq_u_t e696 g538 g1 rfl 7).trans ((f659 r1 7 _ g1 rfl).trans ((f642 r1 7 _ g1 rfl).trans ((wq_u_t e596 g538 g1 rfl 7).trans ((f580 r1 7 _ g1 rfl).trans (f563 r1 7 _ g1 rfl)))))))))
                      have k767 : H760 r1 8 = H r1 8 := ((wq_u_j e761 rfl).trans ((wq_u_t e745 g538 g1 rfl 8).trans ((f739 r1 8 _ g1 rfl).trans ((wq_u_t e696 g538 g1 rfl 8).trans ((f659 r1 8 _ g1 rfl).trans ((f642 r1 8 _ g1 rfl).trans ((wq_u_t e596 g538 g1 rfl 8).trans ((f580 r1 8 _ g1 rfl).trans (f563 r1 8 _ g1 rfl)))))))))
                      have k768 : H760 r1 9 = H r1 9 := ((wq_u_j e761 rfl).trans ((wq_u_t e745 g538 g1 rfl 9).trans ((f739 r1 9 _ g1 rfl).trans ((wq_u_t e696 g538 g1 rfl 9).trans ((f659 r1 9 _ g1 rfl).trans ((f642 r1 9 _ g1 rfl).trans ((wq_u_t e596 g538 g1 rfl 9).trans ((f580 r1 9 _ g1 rfl).trans (f563 r1 9 _ g1 rfl)))))))))
                      have k769 : H760 r1 11 = H r1 11 := ((wq_u_j e761 rfl).trans ((wq_u_t e745 g538 g1 rfl 11).trans ((f739 r1 11 _ g1 rfl).trans ((wq_u_t e696 g538 g1 rfl 11).trans ((f659 r1 11 _ g1 rfl).trans ((f642 r1 11 _ g1 rfl).trans ((wq_u_t e596 g538 g1 rfl 11).trans ((f580 r1 11 _ g1 rfl).trans (f563 r1 11 _ g1 rfl)))))))))
                      have k770 : H760 r1 12 = H r1 12 := ((wq_u_j e761 rfl).trans ((wq_u_t e745 g538 g1 rfl 12).trans ((f739 r1 12 _ g1 rfl).trans ((wq_u_t e696 g538 g1 rfl 12).trans ((f659 r1 12 _ g1 rfl).trans ((f642 r1 12 _ g1 rfl).trans ((wq_u_t e596 g538 g1 rfl 12).trans ((f580 r1 12 _ g1 rfl).trans (f563 r1 12 _ g1 rfl)))))))))
                      have k771 : H760 r1 13 = H r1 13 := ((wq_u_j e761 rfl).trans ((wq_u_t e745 g538 g1 rfl 13).trans ((f739 r1 13 _ g1 rfl).trans ((wq_u_t e696 g538 g1 rfl 13).trans ((f659 r1 13 _ g1 rfl).trans ((f642 r1 13 _ g1 rfl).trans ((wq_u_t e596 g538 g1 rfl 13).trans ((f580 r1 13 _ g1 rfl).trans (f563 r1 13 _ g1 rfl)))))))))
                      have k772 : H760 r1 14 = H r1 14 := ((wq_u_j e761 rfl).trans ((wq_u_t e745 g538 g1 rfl 14).trans ((f739 r1 14 _ g1 rfl).trans ((wq_u_t e696 g538 g1 rfl 14).trans ((f659 r1 14 _ g1 rfl).trans ((f642 r1 14 _ g1 rfl).trans ((wq_u_t e596 g538 g1 rfl 14).trans ((f580 r1 14 _ g1 rfl).trans (f563 r1 14 _ g1 rfl)))))))))
                      have k773 : H760 r1 15 = H r1 15 := ((wq_u_j e761 rfl).trans ((wq_u_t e745 g538 g1 rfl 15).trans ((f739 r1 15 _ g1 rfl).trans ((wq_u_t e696 g538 g1 rfl 15).trans ((f659 r1 15 _ g1 rfl).trans ((f642 r1 15 _ g1 rfl).trans ((wq_u_t e596 g538 g1 rfl 15).trans ((f580 r1 15 _ g1 rfl).trans (f563 r1 15 _ g1 rfl)))))))))
                      have k774 : H760 r1 16 = H r1 16 := ((wq_u_j e761 rfl).trans ((wq_u_t e745 g538 g1 rfl 16).trans ((f739 r1 16 _ g1 rfl).trans ((wq_u_t e696 g538 g1 rfl 16).trans ((f659 r1 16 _ g1 rfl).trans ((f642 r1 16 _ g1 rfl).trans ((wq_u_t e596 g538 g1 rfl 16).trans ((f580 r1 16 _ g1 rfl).trans (f563 r1 16 _ g1 rfl)))))))))
                      have k775 : H760 r536 6 = H744 r536 6 := (wq_u_t e761 g1 g538 rfl 6)
                      have k776 : H760 r536 7 = H744 r536 7 := (wq_u_t e761 g1 g538 rfl 7)
                      have k777 : H760 r536 8 = H744 r536 8 := (wq_u_t e761 g1 g538 rfl 8)
                      have k778 : H760 r536 9 = H744 r536 9 := (wq_u_t e761 g1 g538 rfl 9)
                      have k779 : H760 r536 10 = H744 r536 10 := (wq_u_t e761 g1 g538 rfl 10)
                      have k780 : H760 r536 11 = H744 r536 11 := (wq_u_t e761 g1 g538 rfl 11)
                      have k781 : H760 r536 12 = H744 r536 12 := (wq_u_t e761 g1 g538 rfl 12)
                      have k782 : H760 r536 13 = H744 r536 13 := (wq_u_t e761 g1 g538 rfl 13)
                      have k783 : H760 r536 14 = H744 r536 14 := (wq_u_t e761 g1 g538 rfl 14)
                      have o784 : (xcs B n q) = (0, q, (xN B n ((xN B n (xN B n (xN B n ((xN B n ((xN B n ((xN B n q)))))))))))) := by
                        unfold xcs xca xcb
                        try rw [_ea]
                        try rw [_eb]
                        try rw [_ec]
                        repeat first | rw [xs_0 (by omega)] | rw [xs_1 (by omega)] | rw [if_pos (by omega)] | rw [if_neg (by omega)]
                        first | done | rfl | assumption | (exfalso; omega) | (refine Prod.ext ?_ (Prod.ext ?_ ?_) <;> (try dsimp only) <;> omega)
                      have o784a : ((xcs B n q)).1 = 0 := by rw [o784]
                      have o784b : ((xcs B n q)).2.1 = q := by rw [o784]
                      have o784c : ((xcs B n q)).2.2 = (xN B n ((xN B n (xN B n (xN B n ((xN B n ((xN B n ((xN B n q))))))))))) := by rw [o784]
                      have _l := @xdper_v B n y d
                      have _k := @xdper_k (H r1 10).toNat d B n y (by omega)
                      rw [← p1] at _k
                      rw [_ea, _eb] at _k
                      have _f : H760 r536 6 = xdper B n y d 1 (H r1 10).toNat ∧ H760 r536 7 = xdper B n y d 2 (H r1 10).toNat ∧ H760 r536 8 = xdper B n y d 3 (H r1 10).toNat ∧ H760 r536 9 = xdper B n y d 4 (H r1 10).toNat ∧ H760 r536 10 = xdper B n y d 5 (H r1 10).toNat ∧ H760 r536 11 = xdper B n y d 6 (H r1 10).toNat ∧ H760 r536 12 = xhs (xdper B n y d 7 (H r1 10).toNat) (xdper B n y d 8 (H r1 10).toNat) ∧ H760 r536 13 = xdper B n y d 9 (H r1 10).toNat ∧ H760 r536 14 = 0 := ⟨by omega, by omega, by omega, by omega, by omega, by omega, by rw [_k.2.2.2.2.2.2.1, _k.2.2.2.2.2.2.2.1]; omega, by omega, by omega⟩
                      have h785 : TC T H760 tk B n (xN B n ((xN B n (xN B n (xN B n ((xN B n ((xN B n ((xN B n q))))))))))) := (TC_fr w746 gtk ((wfr.rf (l := [(27, 10)])).put' e761 g1 rfl) rfl (TC_fr w738 gtk ((wfr.rf (l := [(35, 13)])).put' e745 g538 rfl) rfl p740))
                      have k786 : H760 r1 0 = H r1 0 := ((wq_u_j e761 rfl).trans ((wq_u_t e745 g538 g1 rfl 0).trans ((f739 r1 0 _ g1 rfl).trans ((wq_u_t e696 g538 g1 rfl 0).trans ((f659 r1 0 _ g1 rfl).trans ((f642 r1 0 _ g1 rfl).trans ((wq_u_t e596 g538 g1 rfl 0).trans ((f580 r1 0 _ g1 rfl).trans (f563 r1 0 _ g1 rfl)))))))))
                      have q787 : H760 r1 0 = (r531 : Int) := k786.trans q532
                      have k788 : H760 r531 ((H r1 10).toNat) = H r531 ((H r1 10).toNat) := ((wq_u_t e761 g1 g533 rfl ((H r1 10).toNat)).trans ((wq_u_t e745 g538 g533 rfl ((H r1 10).toNat)).trans ((f739 r531 ((H r1 10).toNat) _ g533 rfl).trans ((wq_u_t e696 g538 g533 rfl ((H r1 10).toNat)).trans ((f659 r531 ((H r1 10).toNat) _ g533 rfl).trans ((f642 r531 ((H r1 10).toNat) _ g533 rfl).trans ((wq_u_t e596 g538 g533 rfl ((H r1 10).toNat)).trans ((f580 r531 ((H r1 10).toNat) _ g533 rfl).trans (f563 r531 ((H r1 10).toNat) _ g533 rfl)))))))))
                      have q789 : H760 r531 ((H r1 10).toNat) = (r536 : Int) := k788.trans q537
                      have h790 : ST T H760 r1 (d 13) := (ST_fr w746 g1 ((wfr.rf (l := [(27, 10)])).put' e761 g1 rfl) rfl (ST_fr w738 g1 ((wfr.rf (l := [(35, 13)])).put' e745 g538 rfl) rfl (ST_fr w697 g1 f739 rfl (ST_fr w658 g1 ((wfr.rf (l := [(35, 12)])).put' e696 g538 rfl) rfl (ST_fr w641 g1 f659 rfl (ST_fr w597 g1 f642 rfl (ST_fr w579 g1 ((wfr.rf (l := [(35, 11)])).put' e596 g538 rfl) rfl (ST_fr w562 g1 f580 rfl (ST_fr hW g1 f563 rfl h525)))))))))
                      have h791 : SV T H760 r1 (d 13) 24 := (SV_fr w746 g1 ((wfr.rf (l := [(27, 10)])).put' e761 g1 rfl) rfl (SV_fr w738 g1 ((wfr.rf (l := [(35, 13)])).put' e745 g538 rfl) rfl (SV_fr w697 g1 f739 rfl (SV_fr w658 g1 ((wfr.rf (l := [(35, 12)])).put' e696 g538 rfl) rfl (SV_fr w641 g1 f659 rfl (SV_fr w597 g1 f642 rfl (SV_fr w579 g1 ((wfr.rf (l := [(35, 11)])).put' e596 g538 rfl) rfl (SV_fr w562 g1 f580 rfl (SV_fr hW g1 f563 rfl h526)))))))))
                      have h792 : DA3 T H760 r1 (d 0 5) (d 12) := (DA3_fr w746 g1 ((wfr.rf (l := [(27, 10)])).put' e761 g1 rfl) rfl (DA3_fr w738 g1 ((wfr.rf (l := [(35, 13)])).put' e745 g538 rfl) rfl (DA3_fr w697 g1 f739 rfl (DA3_fr w658 g1 ((wfr.rf (l := [(35, 12)])).put' e696 g538 rfl) rfl (DA3_fr w641 g1 f659 rfl (DA3_fr w597 g1 f642 rfl (DA3_fr w579 g1 ((wfr.rf (l := [(35, 11)])).put' e596 g538 rfl) rfl (DA3_fr w562 g1 f580 rfl (DA3_fr hW g1 f563 rfl h527)))))))))
                      have h793 : DA4 T H760 r1 (d 0 6) (d 14) := (DA4_fr w746 g1 ((wfr.rf (l := [(27, 10)])).put' e761 g1 rfl) rfl (DA4_fr w738 g1 ((wfr.rf (l := [(35, 13)])).put' e745 g538 rfl) rfl (DA4_fr w697 g1 f739 rfl (DA4_fr w658 g1 ((wfr.rf (l := [(35, 12)])).put' e696 g538 rfl) rfl (DA4_fr w641 g1 f659 rfl (DA4_fr w597 g1 f642 rfl (DA4_fr w579 g1 ((wfr.rf (l := [(35, 11)])).put' e596 g538 rfl) rfl (DA4_fr w562 g1 f580 rfl (DA4_fr hW g1 f563 rfl h528)))))))))
                      have h794 : DA5 T H760 r1 (d 0 6) (d 15) := (DA5_fr w746 g1 ((wfr.rf (l := [(27, 10)])).put' e761 g1 rfl) rfl (DA5_fr w738 g1 ((wfr.rf (l := [(35, 13)])).put' e745 g538 rfl) rfl (DA5_fr w697 g1 f739 rfl (DA5_fr w658 g1 ((wfr.rf (l := [(35, 12)])).put' e696 g538 rfl) rfl (DA5_fr w641 g1 f659 rfl (DA5_fr w597 g1 f642 rfl (DA5_fr w579 g1 ((wfr.rf (l := [(35, 11)])).put' e596 g538 rfl) rfl (DA5_fr w562 g1 f580 rfl (DA5_fr hW g1 f563 rfl h529)))))))))
                      have h795 : DA6 T H760 r1 (d 0 7) (d 16) := (DA6_fr w746 g1 ((wfr.rf (l := [(27, 10)])).put' e761 g1 rfl) rfl (DA6_fr w738 g1 ((wfr.rf (l := [(35, 13)])).put' e745 g538 rfl) rfl (DA6_fr w697 g1 f739 rfl (DA6_fr w658 g1 ((wfr.rf (l := [(35, 12)])).put' e696 g538 rfl) rfl (DA6_fr w641 g1 f659 rfl (DA6_fr w597 g1 f642 rfl (DA6_fr w579 g1 ((wfr.rf (l := [(35, 11)])).put' e596 g538 rfl) rfl (DA6_fr w562 g1 f580 rfl (DA6_fr hW g1 f563 rfl h530)))))))))
                      exact wp_zreturn e30 c30_146 rfl (by omega) ⟨rfl, w762, f763, 1, rfl, ⟨by omega, by omega⟩, (Or.inl ⟨by omega, by omega, by omega, by omega, by rw [o784]; exact h785, DC_mk ⟨by omega, by omega, by omega, by omega, by omega, by omega, by omega, by omega, by omega, by omega, by omega, by omega, by omega, by omega, by omega, by omega⟩ (DQ_per g538 (DQ_oth hW g1 f763 rfl hDD_r1 q787 q789 (by omega) (by omega) (fun a ha ga => ((wq_u_tf e761 g1 ga (by decide)).trans ((wq_u_nf e745 ha).trans ((f739.fn ga rfl).trans ((wq_u_nf e696 ha).trans ((f659.fn ga rfl).trans ((f642.fn ga rfl).trans ((wq_u_nf e596 ha).trans ((f580.fn ga rfl).trans (f563.fn ga rfl)))))))))) hDC_r1.2.1) (by omega) q787 q789 (k := (H r1 10).toNat) (by omega) _f) h790 h791 h792 h793 h794 h795 ⟨rfl, rfl, rfl, rfl, rfl⟩ ⟨by omega, by omega, by omega⟩⟩)⟩
                  · show wp _ _ 30 120 [(2, .ref r536), (0, .ref r0), (1, .ref r1)] [vI z719] _ H695 _
                    refine wp_of e30 c30_120 (rw_if_eq (p1 := 135) (p2 := 123) (by decide) rfl ⟨by omega, by omega⟩ (fun c796 => ?_) (fun c796 => ?_))
                    · have _ec : xqc B n ((xN B n (xN B n (xN B n ((xN B n ((xN B n ((xN B n q)))))))))) = ((xN B n (xN B n (xN B n ((xN B n ((xN B n ((xN B n q)))))))))) := by
                        unfold xqc
                        first | rw [if_pos (by omega)] | rw [if_neg (by omega)]
                      have _ew : xaw B n ((xN B n (xN B n (xN B n ((xN B n ((xN B n ((xN B n q)))))))))) = H695 r536 13 := by
                        unfold xaw
                        first | (rw [if_pos (by omega)]; omega) | (rw [if_neg (by omega)]; omega)
                      refine wp_of e30 c30_135 (rw_aload_n (pc' := 136) (v := .ref r1) rfl rfl rfl ?_)
                      refine wp_of e30 c30_136 (rw_dup (pc' := 137) rfl rfl ?_)
                      have k797 : H695 r1 10 = H r1 10 := ((wq_u_t e696 g538 g1 rfl 10).trans ((f659 r1 10 _ g1 rfl).trans ((f642 r1 10 _ g1 rfl).trans ((wq_u_t e596 g538 g1 rfl 10).trans ((f580 r1 10 _ g1 rfl).trans (f563 r1 10 _ g1 rfl))))))
                      refine wp_of e30 c30_137 (xg_I (pc' := 140) lf_1_44 w697 g1 sh_27 (by decide) (by decide) ty_27_10 rfl rfl (fun b798 b799 => ?_))
                      refine wp_of e30 c30_140 (rw_iconst (pc' := 141) rfl ?_)
                      refine wp_of e30 c30_141 (rw_iadd (pc' := 142) rfl ?_)
                      refine wp_of e30 c30_142 (xp_I (pc' := 145) lf_1_44 w697 g1 sh_27 (by decide) (by decide) ty_27_10 rfl rfl (by omega) (by omega) ⟨by omega, by omega⟩ rfl (fun H800 e801 w802 => ?_))
                      have f803 := f698.put' e801 g1 rfl
                      have k804 : H800 r1 10 = (H695 r1 10) + 1 := wq_u_s e801
                      refine wp_of e30 c30_145 (rw_iconst (pc' := 146) rfl ?_)
                      have k805 : H800 r0 3 = H654 r0 3 := ((wq_u_t e801 g1 g0 rfl 3).trans (wq_u_t e696 g538 g0 rfl 3))
                      have k806 : H800 r1 7 = H r1 7 := ((wq_u_j e801 rfl).trans ((wq_u_t e696 g538 g1 rfl 7).trans ((f659 r1 7 _ g1 rfl).trans ((f642 r1 7 _ g1 rfl).trans ((wq_u_t e596 g538 g1 rfl 7).trans ((f580 r1 7 _ g1 rfl).trans (f563 r1 7 _ g1 rfl)))))))
                      have k807 : H800 r1 8 = H r1 8 := ((wq_u_j e801 rfl).trans ((wq_u_t e696 g538 g1 rfl 8).trans ((f659 r1 8 _ g1 rfl).trans ((f642 r1 8 _ g1 rfl).trans ((wq_u_t e596 g538 g1 rfl 8).trans ((f580 r1 8 _ g1 rfl).trans (f563 r1 8 _ g1 rfl)))))))
                      have k808 : H800 r1 9 = H r1 9 := ((wq_u_j e801 rfl).trans ((wq_u_t e696 g538 g1 rfl 9).trans ((f659 r1 9 _ g1 rfl).trans ((f642 r1 9 _ g1 rfl).trans ((wq_u_t e596 g538 g1 rfl 9).trans ((f580 r1 9 _ g1 rfl).trans (f563 r1 9 _ g1 rfl)))))))
                      have k809 : H800 r1 11 = H r1 11 := ((wq_u_j e801 rfl).trans ((wq_u_t e696 g538 g1 rfl 11).trans ((f659 r1 11 _ g1 rfl).trans ((f642 r1 11 _ g1 rfl).trans ((wq_u_t e596 g538 g1 rfl 11).trans ((f580 r1 11 _ g1 rfl).trans (f563 r1 11 _ g1 rfl)))))))
                      have k810 : H800 r1 12 = H r1 12 := ((wq_u_j e801 rfl).trans ((wq_u_t e696 g538 g1 rfl 12).trans ((f659 r1 12 _ g1 rfl).trans ((f642 r1 12 _ g1 rfl).trans ((wq_u_t e596 g538 g1 rfl 12).trans ((f580 r1 12 _ g1 rfl).trans (f563 r1 12 _ g1 rfl)))))))
                      have k811 : H800 r1 13 = H r1 13 := ((wq_u_j e801 rfl).trans ((wq_u_t e696 g538 g1 rfl 13).trans ((f659 r1 13 _ g1 rfl).trans ((f642 r1 13 _ g1 rfl).trans ((wq_u_t e596 g538 g1 rfl 13).trans ((f580 r1 13 _ g1 rfl).trans (f563 r1 13 _ g1 rfl)))))))
                      have k812 : H800 r1 14 = H r1 14 := ((wq_u_j e801 rfl).trans ((wq_u_t e696 g538 g1 rfl 14).trans ((f659 r1 14 _ g1 rfl).trans ((f642 r1 14 _ g1 rfl).trans ((wq_u_t e596 g538 g1 rfl 14).trans ((f580 r1 14 _ g1 rfl).trans (f563 r1 14 _ g1 rfl)))))))
                      have k813 : H800 r1 15 = H r1 15 := ((wq_u_j e801 rfl).trans ((wq_u_t e696 g538 g1 rfl 15).trans ((f659 r1 15 _ g1 rfl).trans ((f642 r1 15 _ g1 rfl).trans ((wq_u_t e596 g538 g1 rfl 15).trans ((f580 r1 15 _ g1 rfl).trans (f563 r1 15 _ g1 rfl)))))))
                      have k814 : H800 r1 16 = H r1 16 := ((wq_u_j e801 rfl).trans ((wq_u_t e696 g538 g1 rfl 16).trans ((f659 r1 16 _ g1 rfl).trans ((f642 r1 16 _ g1 rfl).trans ((wq_u_t e596 g538 g1 rfl 16).trans ((f580 r1 16 _ g1 rfl).trans (f563 r1 16 _ g1 rfl)))))))
                      have k815 : H800 r536 6 = H695 r536 6 := (wq_u_t e801 g1 g538 rfl 6)
                      have k816 : H800 r536 7 = H695 r536 7 := (wq_u_t e801 g1 g538 rfl 7)
                      have k817 : H800 r536 8 = H695 r536 8 := (wq_u_t e801 g1 g538 rfl 8)
                      have k818 : H800 r536 9 = H695 r536 9 := (wq_u_t e801 g1 g538 rfl 9)
                      have k819 : H800 r536 10 = H695 r536 10 := (wq_u_t e801 g1 g538 rfl 10)
                      have k820 : H800 r536 11 = H695 r536 11 := (wq_u_t e801 g1 g538 rfl 11)
                      have k821 : H800 r536 12 = H695 r536 12 := (wq_u_t e801 g1 g538 rfl 12)
                      have k822 : H800 r536 13 = H695 r536 13 := (wq_u_t e801 g1 g538 rfl 13)
                      have k823 : H800 r536 14 = H695 r536 14 := (wq_u_t e801 g1 g538 rfl 14)
                      have o824 : (xcs B n q) = (0, q, (xN B n (xN B n (xN B n ((xN B n ((xN B n ((xN B n q)))))))))) := by
                        unfold xcs xca xcb
                        try rw [_ea]
                        try rw [_eb]
                        try rw [_ec]
                        repeat first | rw [xs_0 (by omega)] | rw [xs_1 (by omega)] | rw [if_pos (by omega)] | rw [if_neg (by omega)]
                        first | done | rfl | assumption | (exfalso; omega) | (refine Prod.ext ?_ (Prod.ext ?_ ?_) <;> (try dsimp only) <;> omega)
                      have o824a : ((xcs B n q)).1 = 0 := by rw [o824]
                      have o824b : ((xcs B n q)).2.1 = q := by rw [o824]
                      have o824c : ((xcs B n q)).2.2 = (xN B n (xN B n (xN B n ((xN B n ((xN B n ((xN B n q))))))))) := by rw [o824]
                      have _l := @xdper_v B n y d
                      have _k := @xdper_k (H r1 10).toNat d B n y (by omega)
                      rw [← p1] at _k
                      rw [_ea, _eb] at _k
                      have _f : H800 r536 6 = xdper B n y d 1 (H r1 10).toNat ∧ H800 r536 7 = xdper B n y d 2 (H r1 10).toNat ∧ H800 r536 8 = xdper B n y d 3 (H r1 10).toNat ∧ H800 r536 9 = xdper B n y d 4 (H r1 10).toNat ∧ H800 r536 10 = xdper B n y d 5 (H r1 10).toNat ∧ H800 r536 11 = xdper B n y d 6 (H r1 10).toNat ∧ H800 r536 12 = xhs (xdper B n y d 7 (H r1 10).toNat) (xdper B n y d 8 (H r1 10).toNat) ∧ H800 r536 13 = xdper B n y d 9 (H r1 10).toNat ∧ H800 r536 14 = 0 := ⟨by omega, by omega, by omega, by omega, by omega, by omega, by rw [_k.2.2.2.2.2.2.1, _k.2.2.2.2.2.2.2.1]; omega, by omega, by omega⟩
                      have h825 : TC T H800 tk B n (xN B n (xN B n (xN B n ((xN B n ((xN B n ((xN B n q))))))))) := (TC_fr w697 gtk ((wfr.rf (l := [(27, 10)])).put' e801 g1 rfl) rfl h711)
                      have k826 : H800 r1 0 = H r1 0 := ((wq_u_j e801 rfl).trans ((wq_u_t e696 g538 g1 rfl 0).trans ((f659 r1 0 _ g1 rfl).trans ((f642 r1 0 _ g1 rfl).trans ((wq_u_t e596 g538 g1 rfl 0).trans ((f580 r1 0 _ g1 rfl).trans (f563 r1 0 _ g1 rfl)))))))
                      have q827 : H800 r1 0 = (r531 : Int) := k826.trans q532
                      have k828 : H800 r531 ((H r1 10).toNat) = H r531 ((H r1 10).toNat) := ((wq_u_t e801 g1 g533 rfl ((H r1 10).toNat)).trans ((wq_u_t e696 g538 g533 rfl ((H r1 10).toNat)).trans ((f659 r531 ((H r1 10).toNat) _ g533 rfl).trans ((f642 r531 ((H r1 10).toNat) _ g533 rfl).trans ((wq_u_t e596 g538 g533 rfl ((H r1 10).toNat)).trans ((f580 r531 ((H r1 10).toNat) _ g533 rfl).trans (f563 r531 ((H r1 10).toNat) _ g533 rfl)))))))
                      have q829 : H800 r531 ((H r1 10).toNat) = (r536 : Int) := k828.trans q537
                      have h830 : ST T H800 r1 (d 13) := (ST_fr w697 g1 ((wfr.rf (l := [(27, 10)])).put' e801 g1 rfl) rfl (ST_fr w658 g1 ((wfr.rf (l := [(35, 12)])).put' e696 g538 rfl) rfl (ST_fr w641 g1 f659 rfl (ST_fr w597 g1 f642 rfl (ST_fr w579 g1 ((wfr.rf (l := [(35, 11)])).put' e596 g538 rfl) rfl (ST_fr w562 g1 f580 rfl (ST_fr hW g1 f563 rfl h525)))))))
                      have h831 : SV T H800 r1 (d 13) 24 := (SV_fr w697 g1 ((wfr.rf (l := [(27, 10)])).put' e801 g1 rfl) rfl (SV_fr w658 g1 ((wfr.rf (l := [(35, 12)])).put' e696 g538 rfl) rfl (SV_fr w641 g1 f659 rfl (SV_fr w597 g1 f642 rfl (SV_fr w579 g1 ((wfr.rf (l := [(35, 11)])).put' e596 g538 rfl) rfl (SV_fr w562 g1 f580 rfl (SV_fr hW g1 f563 rfl h526)))))))
                      have h832 : DA3 T H800 r1 (d 0 5) (d 12) := (DA3_fr w697 g1 ((wfr.rf (l := [(27, 10)])).put' e801 g1 rfl) rfl (DA3_fr w658 g1 ((wfr.rf (l := [(35, 12)])).put' e696 g538 rfl) rfl (DA3_fr w641 g1 f659 rfl (DA3_fr w597 g1 f642 rfl (DA3_fr w579 g1 ((wfr.rf (l := [(35, 11)])).put' e596 g538 rfl) rfl (DA3_fr w562 g1 f580 rfl (DA3_fr hW g1 f563 rfl h527)))))))
                      have h833 : DA4 T H800 r1 (d 0 6) (d 14) := (DA4_fr w697 g1 ((wfr.rf (l := [(27, 10)])).put' e801 g1 rfl) rfl (DA4_fr w658 g1 ((wfr.rf (l := [(35, 12)])).put' e696 g538 rfl) rfl (DA4_fr w641 g1 f659 rfl (DA4_fr w597 g1 f642 rfl (DA4_fr w579 g1 ((wfr.rf (l := [(35, 11)])).put' e596 g538 rfl) rfl (DA4_fr w562 g1 f580 rfl (DA4_fr hW g1 f563 rfl h528)))))))
                      have h834 : DA5 T H800 r1 (d 0 6) (d 15) := (DA5_fr w697 g1 ((wfr.rf (l := [(27, 10)])).put' e801 g1 rfl) rfl (DA5_fr w658 g1 ((wfr.rf (l := [(35, 12)])).put' e696 g538 rfl) rfl (DA5_fr w641 g1 f659 rfl (DA5_fr w597 g1 f642 rfl (DA5_fr w579 g1 ((wfr.rf (l := [(35, 11)])).put' e596 g538 rfl) rfl (DA5_fr w562 g1 f580 rfl (DA5_fr hW g1 f563 rfl h529)))))))
                      have h835 : DA6 T H800 r1 (d 0 7) (d 16) := (DA6_fr w697 g1 ((wfr.rf (l := [(27, 10)])).put' e801 g1 rfl) rfl (DA6_fr w658 g1 ((wfr.rf (l := [(35, 12)])).put' e696 g538 rfl) rfl (DA6_fr w641 g1 f659 rfl (DA6_fr w597 g1 f642 rfl (DA6_fr w579 g1 ((wfr.rf (l := [(35, 11)])).put' e596 g538 rfl) rfl (DA6_fr w562 g1 f580 rfl (DA6_fr hW g1 f563 rfl h530)))))))
                      exact wp_zreturn e30 c30_146 rfl (by omega) ⟨rfl, w802, f803, 1, rfl, ⟨by omega, by omega⟩, (Or.inl ⟨by omega, by omega, by omega, by omega, by rw [o824]; exact h825, DC_mk ⟨by omega, by omega, by omega, by omega, by omega, by omega, by omega, by omega, by omega, by omega, by omega, by omega, by omega, by omega, by omega, by omega⟩ (DQ_per g538 (DQ_oth hW g1 f803 rfl hDD_r1 q827 q829 (by omega) (by omega) (fun a ha ga => ((wq_u_tf e801 g1 ga (by decide)).trans ((wq_u_nf e696 ha).trans ((f659.fn ga rfl).trans ((f642.fn ga rfl).trans ((wq_u_nf e596 ha).trans ((f580.fn ga rfl).trans (f563.fn ga rfl)))))))) hDC_r1.2.1) (by omega) q827 q829 (k := (H r1 10).toNat) (by omega) _f) h830 h831 h832 h833 h834 h835 ⟨rfl, rfl, rfl, rfl, rfl⟩ ⟨by omega, by omega, by omega⟩⟩)⟩
                    · exfalso
                      omega
                · exfalso
                  omega
              · have f836 := f645.tr f659 rfl
                show wp _ _ 30 87 [(2, .ref r536), (0, .ref r0), (1, .ref r1)] [vI z660] _ H654 _
                refine wp_of e30 c30_87 (rw_if_ne (p1 := 92) (p2 := 90) (by decide) rfl ⟨by omega, by omega⟩ (fun c837 => ?_) (fun c837 => ?_))
                · exfalso
                  omega
                · refine wp_of e30 c30_90 (rw_iconst (pc' := 91) rfl ?_)
                  have o838 : (xcs B n q) = ((xrg B n ((xN B n ((xN B n ((xN B n q)))))) 23 1 24 24).1, (xrg B n ((xN B n ((xN B n ((xN B n q)))))) 23 1 24 24).2.1, (xrg B n ((xN B n ((xN B n ((xN B n q)))))) 23 1 24 24).2.2) := by
                    unfold xcs xca xcb
                    try rw [_ea]
                    try rw [_eb]
                    try rw [_ec]
                    repeat first | rw [xs_0 (by omega)] | rw [xs_1 (by omega)] | rw [if_pos (by omega)] | rw [if_neg (by omega)]
                    first | done | rfl | assumption | (exfalso; omega) | (refine Prod.ext ?_ (Prod.ext ?_ ?_) <;> (try dsimp only) <;> omega)
                  have o838a : ((xcs B n q)).1 = (xrg B n ((xN B n ((xN B n ((xN B n q)))))) 23 1 24 24).1 := by rw [o838]
                  have o838b : ((xcs B n q)).2.1 = (xrg B n ((xN B n ((xN B n ((xN B n q)))))) 23 1 24 24).2.1 := by rw [o838]
                  have o838c : ((xcs B n q)).2.2 = (xrg B n ((xN B n ((xN B n ((xN B n q)))))) 23 1 24 24).2.2 := by rw [o838]
                  exact wp_zreturn e30 c30_91 rfl (by omega) ⟨rfl, w658, f836, 0, rfl, ⟨by omega, by omega⟩, (Or.inr ⟨by omega, by omega, by omega, by omega, by omega⟩)⟩
          · show wp _ _ 30 66 [(2, .ref r536), (0, .ref r0), (1, .ref r1)] [vI z622] _ H595 _
            refine wp_of e30 c30_66 (rw_if_eq (p1 := 107) (p2 := 69) (by decide) rfl ⟨by omega, by omega⟩ (fun c839 => ?_) (fun c839 => ?_))
            · have _eb : xqb B n ((xN B n ((xN B n q)))) = ((xN B n ((xN B n q)))) := by
                unfold xqb
                first | rw [if_pos (by omega)] | rw [if_neg (by omega)]
              have _en : H595 r536 12 = xhs (xnf B n ((xN B n ((xN B n q))))) (xnt B n ((xN B n ((xN B n q))))) := by
                unfold xnf xnt
                first | (rw [if_pos (by omega), if_pos (by omega)]; omega) | (rw [if_neg (by omega), if_neg (by omega)]; omega)
              refine wp_of e30 c30_107 (rw_aload_n (pc' := 108) (v := .ref r0) rfl rfl rfl ?_)
              refine wp_of e30 c30_108 (xg_K (pc' := 111) lf_1_12 w597 g0 sh_3 (by decide) (by decide) rfl q612 rfl ?_)
              refine wp_of e30 c30_111 (rw_gs (pc' := 114) (k := 26) rfl rfl rfl rfl ?_)
              have k840 : H595 26 0 = ((42 : Nat) : Int) := (w597.2 26 _ (w597.1.2.2 10 (by decide))).2.2 0 (by decide) |> fun z => by have z1 : (42 : Int) ≤ H595 26 0 ∧ H595 26 0 ≤ 42 := z; omega
              refine wp_of e30 c30_114 (rw_getR (pc' := 117) (n := 2) (b := 42) (e := _) (lf_1_181).choose_spec.1 (lf_1_181).choose_spec.2.1 (w597.sh (w597.1.2.2 10 (by decide)) rfl) (by decide) rfl k840 rfl ?_)
              refine wp_of e30 c30_117 (xc_V (pc' := 120) (r := tk) (as := [.ref 42]) (st := []) (lm_1_185) rfl rfl (Nat.le_of_ble_eq_true rfl) w597 gtk sh_4 (by decide) rfl (by decide) (u_19_t (B := B) (n := n) (q := ((xN B n ((xN B n q))))) (kk := 56377) w597 gtk rfl (by decide +kernel) h614) (fun R841 T842 H843 p844 => ?_))
              obtain ⟨e845, e847, z848, e846, b849, p850⟩ := p844
              subst e845
              subst e846
              subst e847
              rcases p850 with ⟨a851, a852⟩ | ⟨a853, a854⟩
              · show wp _ _ 30 120 [(2, .ref r536), (0, .ref r0), (1, .ref r1)] [vI z848] _ H595 _
                refine wp_of e30 c30_120 (rw_if_eq (p1 := 135) (p2 := 123) (by decide) rfl ⟨by omega, by omega⟩ (fun c855 => ?_) (fun c855 => ?_))
                · exfalso
                  omega
                · refine wp_of e30 c30_123 (rw_aload_n (pc' := 124) (v := .ref r0) rfl rfl rfl ?_)
                  refine wp_of e30 c30_124 (xg_K (pc' := 127) lf_1_12 w597 g0 sh_3 (by decide) (by decide) rfl q612 rfl ?_)
                  have k856 : H595 tk 0 = H558 tk 0 := ((wq_u_t e596 g538 gtk rfl 0).trans (f580 tk 0 _ gtk rfl))
                  have q857 : H595 tk 0 = (rb : Int) := k856.trans q571
                  have k858 : H595 tk 1 = H575 tk 1 := (wq_u_t e596 g538 gtk rfl 1)
                  have k859 : H595 tk 2 = H575 tk 2 := (wq_u_t e596 g538 gtk rfl 2)
                  have h860 : TP T H595 rb B := (TP_fr w579 grb ((wfr.rf (l := [(35, 11)])).put' e596 g538 rfl) rfl (TP_fr w562 grb f580 rfl (TP_fr hW grb f563 rfl h555)))
                  refine wp_of e30 c30_127 (xc_V (pc' := 130) (r := tk) (as := []) (st := []) (lm_1_74) rfl rfl (Nat.le_of_ble_eq_true rfl) w597 gtk sh_4 (by decide) rfl (by decide) (u_16 (B := B) (n := n) (a := (xE B n ((xN B n ((xN B n q)))))) (q := (xN B n ((xN B n ((xN B n q)))))) w597 gtk q857 grb (by omega) (by omega) (by omega) (rfl) h860) (fun R861 T862 H863 p864 => ?_))
                  obtain ⟨e865, w867, f868, e866, p869⟩ := p864
                  subst e865
                  subst e866
                  have f871 := f598.tr f868 rfl
                  show wp _ _ 30 130 [(2, .ref r536), (0, .ref r0), (1, .ref r1)] [] _ H863 _
                  have u872 := TC_k p869
                  refine wp_of e30 c30_130 (rw_aload_n (pc' := 131) (v := .ref r536) rfl rfl rfl ?_)
                  refine wp_of e30 c30_131 (rw_iconst (pc' := 132) rfl ?_)
                  refine wp_of e30 c30_132 (xp_Z (pc' := 135) lf_1_203 w867 g538 sh_35 (by decide) (by decide) ty_35_13 rfl rfl (by omega) (by omega) rfl (fun H873 e874 w875 => ?_))
                  have f876 := f871.put' e874 g538 rfl
                  have k877 : H873 r536 13 = 1 := wq_u_s e874
                  have _ec : xqc B n ((xN B n ((xN B n q)))) = ((xN B n ((xN B n ((xN B n q)))))) := by
                    unfold xqc
                    first | rw [if_pos (by omega)] | rw [if_neg (by omega)]
                  have k878 : H873 r536 6 = H595 r536 6 := ((wq_u_j e874 rfl).trans (f868 r536 6 _ g538 rfl))
                  have k879 : H873 r536 7 = H595 r536 7 := ((wq_u_j e874 rfl).trans (f868 r536 7 _ g538 rfl))
                  have k880 : H873 r536 8 = H595 r536 8 := ((wq_u_j e874 rfl).trans (f868 r536 8 _ g538 rfl))
                  have k881 : H873 r536 9 = H595 r536 9 := ((wq_u_j e874 rfl).trans (f868 r536 9 _ g538 rfl))
                  have k882 : H873 r536 10 = H595 r536 10 := ((wq_u_j e874 rfl).trans (f868 r536 10 _ g538 rfl))
                  have k883 : H873 r536 11 = H595 r536 11 := ((wq_u_j e874 rfl).trans (f868 r536 11 _ g538 rfl))
                  have k884 : H873 r536 12 = H595 r536 12 := ((wq_u_j e874 rfl).trans (f868 r536 12 _ g538 rfl))
                  have k885 : H873 r536 14 = H595 r536 14 := ((wq_u_j e874 rfl).trans (f868 r536 14 _ g538 rfl))
                  have _ew : xaw B n ((xN B n ((xN B n q)))) = H873 r536 13 := by
                    unfold xaw
                    first | (rw [if_pos (by omega)]; omega) | (rw [if_neg (by omega)]; omega)
                  refine wp_of e30 c30_135 (rw_aload_n (pc' := 136) (v := .ref r1) rfl rfl rfl ?_)
                  refine wp_of e30 c30_136 (rw_dup (pc' := 137) rfl rfl ?_)
                  have k886 : H873 r1 10 = H r1 10 := ((wq_u_t e874 g538 g1 rfl 10).trans ((f868 r1 10 _ g1 rfl).trans ((wq_u_t e596 g538 g1 rfl 10).trans ((f580 r1 10 _ g1 rfl).trans (f563 r1 10 _ g1 rfl)))))
                  refine wp_of e30 c30_137 (xg_I (pc' := 140) lf_1_44 w875 g1 sh_27 (by decide) (by decide) ty_27_10 rfl rfl (fun b887 b888 => ?_))
                  refine wp_of e30 c30_140 (rw_iconst (pc' := 141) rfl ?_)
                  refine wp_of e30 c30_141 (rw_iadd (pc' := 142) rfl ?_)
                  refine wp_of e30 c30_142 (xp_I (pc' := 145) lf_1_44 w875 g1 sh_27 (by decide) (by decide) ty_27_10 rfl rfl (by omega) (by omega) ⟨by omega, by omega⟩ rfl (fun H889 e890 w891 => ?_))
                  have f892 := f876.put' e890 g1 rfl
                  have k893 : H889 r1 10 = (H873 r1 10) + 1 := wq_u_s e890
                  refine wp_of e30 c30_145 (rw_iconst (pc' := 146) rfl ?_)
                  have k894 : H889 r0 3 = H575 r0 3 := ((wq_u_t e890 g1 g0 rfl 3).trans ((wq_u_t e874 g538 g0 rfl 3).trans ((f868 r0 3 _ g0 rfl).trans (wq_u_t e596 g538 g0 rfl 3))))
                  have k895 : H889 r1 7 = H r1 7 := ((wq_u_j e890 rfl).trans ((wq_u_t e874 g538 g1 rfl 7).trans ((f868 r1 7 _ g1 rfl).trans ((wq_u_t e596 g538 g1 rfl 7).trans ((f580 r1 7 _ g1 rfl).trans (f563 r1 7 _ g1 rfl))))))
                  have k896 : H889 r1 8 = H r1 8 := ((wq_u_j e890 rfl).trans ((wq_u_t e874 g538 g1 rfl 8).trans ((f868 r1 8 _ g1 rfl).trans ((wq_u_t e596 g538 g1 rfl 8).trans ((f580 r1 8 _ g1 rfl).trans (f563 r1 8 _ g1 rfl))))))
                  have k897 : H889 r1 9 = H r1 9 := ((wq_u_j e890 rfl).trans ((wq_u_t e874 g538 g1 rfl 9).trans ((f868 r1 9 _ g1 rfl).trans ((wq_u_t e596 g538 g1 rfl 9).trans ((f580 r1 9 _ g1 rfl).trans (f563 r1 9 _ g1 rfl))))))
                  have k898 : H889 r1 11 = H r1 11 := ((wq_u_j e890 rfl).trans ((wq_u_t e874 g538 g1 rfl 11).trans ((f868 r1 11 _ g1 rfl).trans ((wq_u_t e596 g538 g1 rfl 11).trans ((f580 r1 11 _ g1 rfl).trans (f563 r1 11 _ g1 rfl))))))
                  have k899 : H889 r1 12 = H r1 12 := ((wq_u_j e890 rfl).trans ((wq_u_t e874 g538 g1 rfl 12).trans ((f868 r1 12 _ g1 rfl).trans ((wq_u_t e596 g538 g1 rfl 12).trans ((f580 r1 12 _ g1 rfl).trans (f563 r1 12 _ g1 rfl))))))
                  have k900 : H889 r1 13 = H r1 13 := ((wq_u_j e890 rfl).trans ((wq_u_t e874 g538 g1 rfl 13).trans ((f868 r1 13 _ g1 rfl).trans ((wq_u_t e596 g538 g1 rfl 13).trans ((f580 r1 13 _ g1 rfl).trans (f563 r1 13 _ g1 rfl))))))
                  have k901 : H889 r1 14 = H r1 14 := ((wq_u_j e890 rfl).trans ((wq_u_t e874 g538 g1 rfl 14).trans ((f868 r1 14 _ g1 rfl).trans ((wq_u_t e596 g538 g1 rfl 14).trans ((f580 r1 14 _ g1 rfl).trans (f563 r1 14 _ g1 rfl))))))
                  have k902 : H889 r1 15 = H r1 15 := ((wq_u_j e890 rfl).trans ((wq_u_t e874 g538 g1 rfl 15).trans ((f868 r1 15 _ g1 rfl).trans ((wq_u_t e596 g538 g1 rfl 15).trans ((f580 r1 15 _ g1 rfl).trans (f563 r1 15 _ g1 rfl))))))
                  have k903 : H889 r1 16 = H r1 16 := ((wq_u_j e890 rfl).trans ((wq_u_t e874 g538 g1 rfl 16).trans ((f868 r1 16 _ g1 rfl).trans ((wq_u_t e596 g538 g1 rfl 16).trans ((f580 r1 16 _ g1 rfl).trans (f563 r1 16 _ g1 rfl))))))
                  have k904 : H889 r536 6 = H873 r536 6 := (wq_u_t e890 g1 g538 rfl 6)
                  have k905 : H889 r536 7 = H873 r536 7 := (wq_u_t e890 g1 g538 rfl 7)
                  have k906 : H889 r536 8 = H873 r536 8 := (wq_u_t e890 g1 g538 rfl 8)
                  have k907 : H889 r536 9 = H873 r536 9 := (wq_u_t e890 g1 g538 rfl 9)
                  have k908 : H889 r536 10 = H873 r536 10 := (wq_u_t e890 g1 g538 rfl 10)
                  have k909 : H889 r536 11 = H873 r536 11 := (wq_u_t e890 g1 g538 rfl 11)
                  have k910 : H889 r536 12 = H873 r536 12 := (wq_u_t e890 g1 g538 rfl 12)
                  have k911 : H889 r536 13 = H873 r536 13 := (wq_u_t e890 g1 g538 rfl 13)
                  have k912 : H889 r536 14 = H873 r536 14 := (wq_u_t e890 g1 g538 rfl 14)
                  have o913 : (xcs B n q) = (0, q, (xN B n ((xN B n ((xN B n q)))))) := by
                    unfold xcs xca xcb
                    try rw [_ea]
                    try rw [_eb]
                    try rw [_ec]
                    repeat first | rw [xs_0 (by omega)] | rw [xs_1 (by omega)] | rw [if_pos (by omega)] | rw [if_neg (by omega)]
                    first | done | rfl | assumption | (exfalso; omega) | (refine Prod.ext ?_ (Prod.ext ?_ ?_) <;> (try dsimp only) <;> omega)
                  have o913a : ((xcs B n q)).1 = 0 := by rw [o913]
                  have o913b : ((xcs B n q)).2.1 = q := by rw [o913]
                  have o913c : ((xcs B n q)).2.2 = (xN B n ((xN B n ((xN B n q))))) := by rw [o913]
                  have _l := @xdper_v B n y d
                  have _k := @xdper_k (H r1 10).toNat d B n y (by omega)
                  rw [← p1] at _k
                  rw [_ea, _eb] at _k
                  have _f : H889 r536 6 = xdper B n y d 1 (H r1 10).toNat ∧ H889 r536 7 = xdper B n y d 2 (H r1 10).toNat ∧ H889 r536 8 = xdper B n y d 3 (H r1 10).toNat ∧ H889 r536 9 = xdper B n y d 4 (H r1 10).toNat ∧ H889 r536 10 = xdper B n y d 5 (H r1 10).toNat ∧ H889 r536 11 = xdper B n y d 6 (H r1 10).toNat ∧ H889 r536 12 = xhs (xdper B n y d 7 (H r1 10).toNat) (xdper B n y d 8 (H r1 10).toNat) ∧ H889 r536 13 = xdper B n y d 9 (H r1 10).toNat ∧ H889 r536 14 = 0 := ⟨by omega, by omega, by omega, by omega, by omega, by omega, by rw [_k.2.2.2.2.2.2.1, _k.2.2.2.2.2.2.2.1]; omega, by omega, by omega⟩
                  have h914 : TC T H889 tk B n (xN B n ((xN B n ((xN B n q))))) := (TC_fr w875 gtk ((wfr.rf (l := [(27, 10)])).put' e890 g1 rfl) rfl (TC_fr w867 gtk ((wfr.rf (l := [(35, 13)])).put' e874 g538 rfl) rfl p869))
                  have k915 : H889 r1 0 = H r1 0 := ((wq_u_j e890 rfl).trans ((wq_u_t e874 g538 g1 rfl 0).trans ((f868 r1 0 _ g1 rfl).trans ((wq_u_t e596 g538 g1 rfl 0).trans ((f580 r1 0 _ g1 rfl).trans (f563 r1 0 _ g1 rfl))))))
                  have q916 : H889 r1 0 = (r531 : Int) := k915.trans q532
                  have k917 : H889 r531 ((H r1 10).toNat) = H r531 ((H r1 10).toNat) := ((wq_u_t e890 g1 g533 rfl ((H r1 10).toNat)).trans ((wq_u_t e874 g538 g533 rfl ((H r1 10).toNat)).trans ((f868 r531 ((H r1 10).toNat) _ g533 rfl).trans ((wq_u_t e596 g538 g533 rfl ((H r1 10).toNat)).trans ((f580 r531 ((H r1 10).toNat) _ g533 rfl).trans (f563 r531 ((H r1 10).toNat) _ g533 rfl))))))
                  have q918 : H889 r531 ((H r1 10).toNat) = (r536 : Int) := k917.trans q537
                  have h919 : ST T H889 r1 (d 13) := (ST_fr w875 g1 ((wfr.rf (l := [(27, 10)])).put' e890 g1 rfl) rfl (ST_fr w867 g1 ((wfr.rf (l := [(35, 13)])).put' e874 g538 rfl) rfl (ST_fr w597 g1 f868 rfl (ST_fr w579 g1 ((wfr.rf (l := [(35, 11)])).put' e596 g538 rfl) rfl (ST_fr w562 g1 f580 rfl (ST_fr hW g1 f563 rfl h525))))))
                  have h920 : SV T H889 r1 (d 13) 24 := (SV_fr w875 g1 ((wfr.rf (l := [(27, 10)])).put' e890 g1 rfl) rfl (SV_fr w867 g1 ((wfr.rf (l := [(35, 13)])).put' e874 g538 rfl) rfl (SV_fr w597 g1 f868 rfl (SV_fr w579 g1 ((wfr.rf (l := [(35, 11)])).put' e596 g538 rfl) rfl (SV_fr w562 g1 f580 rfl (SV_fr hW g1 f563 rfl h526))))))
                  have h921 : DA3 T H889 r1 (d 0 5) (d 12) := (DA3_fr w875 g1 ((wfr.rf (l := [(27, 10)])).put' e890 g1 rfl) rfl (DA3_fr w867 g1 ((wfr.rf (l := [(35, 13)])).put' e874 g538 rfl) rfl (DA3_fr w597 g1 f868 rfl (DA3_fr w579 g1 ((wfr.rf (l := [(35, 11)])).put' e596 g538 rfl) rfl (DA3_fr w562 g1 f580 rfl (DA3_fr hW g1 f563 rfl h527))))))
                  have h922 : DA4 T H889 r1 (d 0 6) (d 14) := (DA4_fr w875 g1 ((wfr.rf (l := [(27, 10)])).put' e890 g1 rfl) rfl (DA4_fr w867 g1 ((wfr.rf (l := [(35, 13)])).put' e874 g538 rfl) rfl (DA4_fr w597 g1 f868 rfl (DA4_fr w579 g1 ((wfr.rf (l := [(35, 11)])).put' e596 g538 rfl) rfl (DA4_fr w562 g1 f580 rfl (DA4_fr hW g1 f563 rfl h528))))))
                  have h923 : DA5 T H889 r1 (d 0 6) (d 15) := (DA5_fr w875 g1 ((wfr.rf (l := [(27, 10)])).put' e890 g1 rfl) rfl (DA5_fr w867 g1 ((wfr.rf (l := [(35, 13)])).put' e874 g538 rfl) rfl (DA5_fr w597 g1 f868 rfl (DA5_fr w579 g1 ((wfr.rf (l := [(35, 11)])).put' e596 g538 rfl) rfl (DA5_fr w562 g1 f580 rfl (DA5_fr hW g1 f563 rfl h529))))))
                  have h924 : DA6 T H889 r1 (d 0 7) (d 16) := (DA6_fr w875 g1 ((wfr.rf (l := [(27, 10)])).put' e890 g1 rfl) rfl (DA6_fr w867 g1 ((wfr.rf (l := [(35, 13)])).put' e874 g538 rfl) rfl (DA6_fr w597 g1 f868 rfl (DA6_fr w579 g1 ((wfr.rf (l := [(35, 11)])).put' e596 g538 rfl) rfl (DA6_fr w562 g1 f580 rfl (DA6_fr hW g1 f563 rfl h530))))))
                  exact wp_zreturn e30 c30_146 rfl (by omega) ⟨rfl, w891, f892, 1, rfl, ⟨by omega, by omega⟩, (Or.inl ⟨by omega, by omega, by omega, by omega, by rw [o913]; exact h914, DC_mk ⟨by omega, by omega, by omega, by omega, by omega, by omega, by omega, by omega, by omega, by omega, by omega, by omega, by omega, by omega, by omega, by omega⟩ (DQ_per g538 (DQ_oth hW g1 f892 rfl hDD_r1 q916 q918 (by omega) (by omega) (fun a ha ga => ((wq_u_tf e890 g1 ga (by decide)).trans ((wq_u_nf e874 ha).trans ((f868.fn ga rfl).trans ((wq_u_nf e596 ha).trans ((f580.fn ga rfl).trans (f563.fn ga rfl))))))) hDC_r1.2.1) (by omega) q916 q918 (k := (H r1 10).toNat) (by omega) _f) h919 h920 h921 h922 h923 h924 ⟨rfl, rfl, rfl, rfl, rfl⟩ ⟨by omega, by omega, by omega⟩⟩)⟩
              · show wp _ _ 30 120 [(2, .ref r536), (0, .ref r0), (1, .ref r1)] [vI z848] _ H595 _
                refine wp_of e30 c30_120 (rw_if_eq (p1 := 135) (p2 := 123) (by decide) rfl ⟨by omega, by omega⟩ (fun c925 => ?_) (fun c925 => ?_))
                · have _ec : xqc B n ((xN B n ((xN B n q)))) = ((xN B n ((xN B n q)))) := by
                    unfold xqc
                    first | rw [if_pos (by omega)] | rw [if_neg (by omega)]
                  have _ew : xaw B n ((xN B n ((xN B n q)))) = H595 r536 13 := by
                    unfold xaw
                    first | (rw [if_pos (by omega)]; omega) | (rw [if_neg (by omega)]; omega)
                  refine wp_of e30 c30_135 (rw_aload_n (pc' := 136) (v := .ref r1) rfl rfl rfl ?_)
                  refine wp_of e30 c30_136 (rw_dup (pc' := 137) rfl rfl ?_)
                  have k926 : H595 r1 10 = H r1 10 := ((wq_u_t e596 g538 g1 rfl 10).trans ((f580 r1 10 _ g1 rfl).trans (f563 r1 10 _ g1 rfl)))
                  refine wp_of e30 c30_137 (xg_I (pc' := 140) lf_1_44 w597 g1 sh_27 (by decide) (by decide) ty_27_10 rfl rfl (fun b927 b928 => ?_))
                  refine wp_of e30 c30_140 (rw_iconst (pc' := 141) rfl ?_)
                  refine wp_of e30 c30_141 (rw_iadd (pc' := 142) rfl ?_)
                  refine wp_of e30 c30_142 (xp_I (pc' := 145) lf_1_44 w597 g1 sh_27 (by decide) (by decide) ty_27_10 rfl rfl (by omega) (by omega) ⟨by omega, by omega⟩ rfl (fun H929 e930 w931 => ?_))
                  have f932 := f598.put' e930 g1 rfl
                  have k933 : H929 r1 10 = (H595 r1 10) + 1 := wq_u_s e930
                  refine wp_of e30 c30_145 (rw_iconst (pc' := 146) rfl ?_)
                  have k934 : H929 r0 3 = H575 r0 3 := ((wq_u_t e930 g1 g0 rfl 3).trans (wq_u_t e596 g538 g0 rfl 3))
                  have k935 : H929 r1 7 = H r1 7 := ((wq_u_j e930 rfl).trans ((wq_u_t e596 g538 g1 rfl 7).trans ((f580 r1 7 _ g1 rfl).trans (f563 r1 7 _ g1 rfl))))
                  have k936 : H929 r1 8 = H r1 8 := ((wq_u_j e930 rfl).trans ((wq_u_t e596 g538 g1 rfl 8).trans ((f580 r1 8 _ g1 rfl).trans (f563 r1 8 _ g1 rfl))))
                  have k937 : H929 r1 9 = H r1 9 := ((wq_u_j e930 rfl).trans ((wq_u_t e596 g538 g1 rfl 9).trans ((f580 r1 9 _ g1 rfl).trans (f563 r1 9 _ g1 rfl))))
                  have k938 : H929 r1 11 = H r1 11 := ((wq_u_j e930 rfl).trans ((wq_u_t e596 g538 g1 rfl 11).trans ((f580 r1 11 _ g1 rfl).trans (f563 r1 11 _ g1 rfl))))
                  have k939 : H929 r1 12 = H r1 12 := ((wq_u_j e930 rfl).trans ((wq_u_t e596 g538 g1 rfl 12).trans ((f580 r1 12 _ g1 rfl).trans (f563 r1 12 _ g1 rfl))))
                  have k940 : H929 r1 13 = H r1 13 := ((wq_u_j e930 rfl).trans ((wq_u_t e596 g538 g1 rfl 13).trans ((f580 r1 13 _ g1 rfl).trans (f563 r1 13 _ g1 rfl))))
                  have k941 : H929 r1 14 = H r1 14 := ((wq_u_j e930 rfl).trans ((wq_u_t e596 g538 g1 rfl 14).trans ((f580 r1 14 _ g1 rfl).trans (f563 r1 14 _ g1 rfl))))
                  have k942 : H929 r1 15 = H r1 15 := ((wq_u_j e930 rfl).trans ((wq_u_t e596 g538 g1 rfl 15).trans ((f580 r1 15 _ g1 rfl).trans (f563 r1 15 _ g1 rfl))))
                  have k943 : H929 r1 16 = H r1 16 := ((wq_u_j e930 rfl).trans ((wq_u_t e596 g538 g1 rfl 16).trans ((f580 r1 16 _ g1 rfl).trans (f563 r1 16 _ g1 rfl))))
                  have k944 : H929 r536 6 = H595 r536 6 := (wq_u_t e930 g1 g538 rfl 6)
                  have k945 : H929 r536 7 = H595 r536 7 := (wq_u_t e930 g1 g538 rfl 7)
                  have k946 : H929 r536 8 = H595 r536 8 := (wq_u_t e930 g1 g538 rfl 8)
                  have k947 : H929 r536 9 = H595 r536 9 := (wq_u_t e930 g1 g538 rfl 9)
                  have k948 : H929 r536 10 = H595 r536 10 := (wq_u_t e930 g1 g538 rfl 10)
                  have k949 : H929 r536 11 = H595 r536 11 := (wq_u_t e930 g1 g538 rfl 11)
                  have k950 : H929 r536 12 = H595 r536 12 := (wq_u_t e930 g1 g538 rfl 12)
                  have k951 : H929 r536 13 = H595 r536 13 := (wq_u_t e930 g1 g538 rfl 13)
                  have k952 : H929 r536 14 = H595 r536 14 := (wq_u_t e930 g1 g538 rfl 14)
                  have o953 : (xcs B n q) = (0, q, (xN B n ((xN B n q)))) := by
                    unfold xcs xca xcb
                    try rw [_ea]
                    try rw [_eb]
                    try rw [_ec]
                    repeat first | rw [xs_0 (by omega)] | rw [xs_1 (by omega)] | rw [if_pos (by omega)] | rw [if_neg (by omega)]
                    first | done | rfl | assumption | (exfalso; omega) | (refine Prod.ext ?_ (Prod.ext ?_ ?_) <;> (try dsimp only) <;> omega)
                  have o953a : ((xcs B n q)).1 = 0 := by rw [o953]
                  have o953b : ((xcs B n q)).2.1 = q := by rw [o953]
                  have o953c : ((xcs B n q)).2.2 = (xN B n ((xN B n q))) := by rw [o953]
                  have _l := @xdper_v B n y d
                  have _k := @xdper_k (H r1 10).toNat d B n y (by omega)
                  rw [← p1] at _k
                  rw [_ea, _eb] at _k
                  have _f : H929 r536 6 = xdper B n y d 1 (H r1 10).toNat ∧ H929 r536 7 = xdper B n y d 2 (H r1 10).toNat ∧ H929 r536 8 = xdper B n y d 3 (H r1 10).toNat ∧ H929 r536 9 = xdper B n y d 4 (H r1 10).toNat ∧ H929 r536 10 = xdper B n y d 5 (H r1 10).toNat ∧ H929 r536 11 = xdper B n y d 6 (H r1 10).toNat ∧ H929 r536 12 = xhs (xdper B n y d 7 (H r1 10).toNat) (xdper B n y d 8 (H r1 10).toNat) ∧ H929 r536 13 = xdper B n y d 9 (H r1 10).toNat ∧ H929 r536 14 = 0 := ⟨by omega, by omega, by omega, by omega, by omega, by omega, by rw [_k.2.2.2.2.2.2.1, _k.2.2.2.2.2.2.2.1]; omega, by omega, by omega⟩
                  have h954 : TC T H929 tk B n (xN B n ((xN B n q))) := (TC_fr w597 gtk ((wfr.rf (l := [(27, 10)])).put' e930 g1 rfl) rfl h614)
                  have k955 : H929 r1 0 = H r1 0 := ((wq_u_j e930 rfl).trans ((wq_u_t e596 g538 g1 rfl 0).trans ((f580 r1 0 _ g1 rfl).trans (f563 r1 0 _ g1 rfl))))
                  have q956 : H929 r1 0 = (r531 : Int) := k955.trans q532
                  have k957 : H929 r531 ((H r1 10).toNat) = H r531 ((H r1 10).toNat) := ((wq_u_t e930 g1 g533 rfl ((H r1 10).toNat)).trans ((wq_u_t e596 g538 g533 rfl ((H r1 10).toNat)).trans ((f580 r531 ((H r1 10).toNat) _ g533 rfl).trans (f563 r531 ((H r1 10).toNat) _ g533 rfl))))
                  have q958 : H929 r531 ((H r1 10).toNat) = (r536 : Int) := k957.trans q537
                  have h959 : ST T H929 r1 (d 13) := (ST_fr w597 g1 ((wfr.rf (l := [(27, 10)])).put' e930 g1 rfl) rfl (ST_fr w579 g1 ((wfr.rf (l := [(35, 11)])).put' e596 g538 rfl) rfl (ST_fr w562 g1 f580 rfl (ST_fr hW g1 f563 rfl h525))))
                  have h960 : SV T H929 r1 (d 13) 24 := (SV_fr w597 g1 ((wfr.rf (l := [(27, 10)])).put' e930 g1 rfl) rfl (SV_fr w579 g1 ((wfr.rf (l := [(35, 11)])).put' e596 g538 rfl) rfl (SV_fr w562 g1 f580 rfl (SV_fr hW g1 f563 rfl h526))))
                  have h961 : DA3 T H929 r1 (d 0 5) (d 12) := (DA3_fr w597 g1 ((wfr.rf (l := [(27, 10)])).put' e930 g1 rfl) rfl (DA3_fr w579 g1 ((wfr.rf (l := [(35, 11)])).put' e596 g538 rfl) rfl (DA3_fr w562 g1 f580 rfl (DA3_fr hW g1 f563 rfl h527))))
                  have h962 : DA4 T H929 r1 (d 0 6) (d 14) := (DA4_fr w597 g1 ((wfr.rf (l := [(27, 10)])).put' e930 g1 rfl) rfl (DA4_fr w579 g1 ((wfr.rf (l := [(35, 11)])).put' e596 g538 rfl) rfl (DA4_fr w562 g1 f580 rfl (DA4_fr hW g1 f563 rfl h528))))
                  have h963 : DA5 T H929 r1 (d 0 6) (d 15) := (DA5_fr w597 g1 ((wfr.rf (l := [(27, 10)])).put' e930 g1 rfl) rfl (DA5_fr w579 g1 ((wfr.rf (l := [(35, 11)])).put' e596 g538 rfl) rfl (DA5_fr w562 g1 f580 rfl (DA5_fr hW g1 f563 rfl h529))))
                  have h964 : DA6 T H929 r1 (d 0 7) (d 16) := (DA6_fr w597 g1 ((wfr.rf (l := [(27, 10)])).put' e930 g1 rfl) rfl (DA6_fr w579 g1 ((wfr.rf (l := [(35, 11)])).put' e596 g538 rfl) rfl (DA6_fr w562 g1 f580 rfl (DA6_fr hW g1 f563 rfl h530))))
                  exact wp_zreturn e30 c30_146 rfl (by omega) ⟨rfl, w931, f932, 1, rfl, ⟨by omega, by omega⟩, (Or.inl ⟨by omega, by omega, by omega, by omega, by rw [o953]; exact h954, DC_mk ⟨by omega, by omega, by omega, by omega, by omega, by omega, by omega, by omega, by omega, by omega, by omega, by omega, by omega, by omega, by omega, by omega⟩ (DQ_per g538 (DQ_oth hW g1 f932 rfl hDD_r1 q956 q958 (by omega) (by omega) (fun a ha ga => ((wq_u_tf e930 g1 ga (by decide)).trans ((wq_u_nf e596 ha).trans ((f580.fn ga rfl).trans (f563.fn ga rfl))))) hDC_r1.2.1) (by omega) q956 q958 (k := (H r1 10).toNat) (by omega) _f) h959 h960 h961 h962 h963 h964 ⟨rfl, rfl, rfl, rfl, rfl⟩ ⟨by omega, by omega, by omega⟩⟩)⟩
                · exfalso
                  omega
            · exfalso
              omega
        · exfalso
          omega
      · have f965 := f566.tr f580 rfl
        show wp _ _ 30 41 [(2, .ref r536), (0, .ref r0), (1, .ref r1)] [vI z581, .ref r536] _ H575 _
        refine wp_of e30 c30_41 (xp_I (pc' := 44) lf_1_188 w579 g538 sh_35 (by decide) (by decide) ty_35_11 rfl rfl (by omega) (by omega) ⟨by omega, by omega⟩ rfl (fun H966 e967 w968 => ?_))
        have f969 := f965.put' e967 g538 rfl
        have k970 : H966 r536 11 = z581 := wq_u_s e967
        refine wp_of e30 c30_44 (rw_aload_n (pc' := 45) (v := .ref r536) rfl rfl rfl ?_)
        refine wp_of e30 c30_45 (xg_I (pc' := 48) lf_1_188 w968 g538 sh_35 (by decide) (by decide) ty_35_11 rfl rfl (fun b971 b972 => ?_))
        refine wp_of e30 c30_48 (rw_if_ge (p1 := 53) (p2 := 51) (by decide) rfl ⟨by omega, by omega⟩ (fun c973 => ?_) (fun c973 => ?_))
        · exfalso
          omega
        · refine wp_of e30 c30_51 (rw_iconst (pc' := 52) rfl ?_)
          have k974 : H966 r0 3 = H575 r0 3 := (wq_u_t e967 g538 g0 rfl 3)
          have k975 : H966 r0 4 = H575 r0 4 := (wq_u_t e967 g538 g0 rfl 4)
          have o976 : (xcs B n q) = (xh B n ((xN B n q)) 0 23, ((xN B n q)), ((xN B n q))) := by
            unfold xcs xca xcb
            try rw [_ea]
            try rw [_eb]
            try rw [_ec]
            repeat first | rw [xs_0 (by omega)] | rw [xs_1 (by omega)] | rw [if_pos (by omega)] | rw [if_neg (by omega)]
            first | done | rfl | assumption | (exfalso; omega) | (refine Prod.ext ?_ (Prod.ext ?_ ?_) <;> (try dsimp only) <;> omega)
          have o976a : ((xcs B n q)).1 = xh B n ((xN B n q)) 0 23 := by rw [o976]
          have o976b : ((xcs B n q)).2.1 = ((xN B n q)) := by rw [o976]
          have o976c : ((xcs B n q)).2.2 = ((xN B n q)) := by rw [o976]
          exact wp_zreturn e30 c30_52 rfl (by omega) ⟨rfl, w968, f969, 0, rfl, ⟨by omega, by omega⟩, (Or.inr ⟨by omega, by omega, by omega, by omega, by omega⟩)⟩
  · show wp _ _ 30 23 [(2, .ref r536), (0, .ref r0), (1, .ref r1)] [vI z547] _ H _
    refine wp_of e30 c30_23 (rw_if_eq (p1 := 53) (p2 := 26) (by decide) rfl ⟨by omega, by omega⟩ (fun c977 => ?_) (fun c977 => ?_))
    · have _ea : xqa B n q = q := by
        unfold xqa
        first | rw [if_pos (by omega)] | rw [if_neg (by omega)]
      have _eh : xhb B n q = H r536 11 := by
        unfold xhb
        first | (rw [if_pos (by omega)]; omega) | (rw [if_neg (by omega)]; omega)
      refine wp_of e30 c30_53 (rw_aload_n (pc' := 54) (v := .ref r0) rfl rfl rfl ?_)
      refine wp_of e30 c30_54 (xg_K (pc' := 57) lf_1_12 hW g0 sh_3 (by decide) (by decide) rfl qtk rfl ?_)
      refine wp_of e30 c30_57 (rw_gs (pc' := 60) (k := 25) rfl rfl rfl rfl ?_)
      have k978 : H 25 0 = ((41 : Nat) : Int) := (hW.2 25 _ (hW.1.2.2 9 (by decide))).2.2 0 (by decide) |> fun z => by have z1 : (41 : Int) ≤ H 25 0 ∧ H 25 0 ≤ 41 := z; omega
      refine wp_of e30 c30_60 (rw_getR (pc' := 63) (n := 2) (b := 41) (e := _) (lf_1_181).choose_spec.1 (lf_1_181).choose_spec.2.1 (hW.sh (hW.1.2.2 9 (by decide)) rfl) (by decide) rfl k978 rfl ?_)
      refine wp_of e30 c30_63 (xc_V (pc' := 66) (r := tk) (as := [.ref 41]) (st := []) (lm_1_185) rfl rfl (Nat.le_of_ble_eq_true rfl) hW gtk sh_4 (by decide) rfl (by decide) (u_19_t (B := B) (n := n) (q := q) (kk := 14384) hW gtk rfl (by decide +kernel) hTC_tk) (fun R979 T980 H981 p982 => ?_))
      obtain ⟨e983, e985, z986, e984, b987, p988⟩ := p982
      subst e983
      subst e984
      subst e985
      rcases p988 with ⟨a989, a990⟩ | ⟨a991, a992⟩
      · show wp _ _ 30 66 [(2, .ref r536), (0, .ref r0), (1, .ref r1)] [vI z986] _ H _
        refine wp_of e30 c30_66 (rw_if_eq (p1 := 107) (p2 := 69) (by decide) rfl ⟨by omega, by omega⟩ (fun c993 => ?_) (fun c993 => ?_))
        · exfalso
          omega
        · refine wp_of e30 c30_69 (rw_aload_n (pc' := 70) (v := .ref r0) rfl rfl rfl ?_)
          refine wp_of e30 c30_70 (xg_K (pc' := 73) lf_1_12 hW g0 sh_3 (by decide) (by decide) rfl qtk rfl ?_)
          have h994 : TP T H rb B := TC_tp hTC_tk qrb
          refine wp_of e30 c30_73 (xc_V (pc' := 76) (r := tk) (as := []) (st := []) (lm_1_74) rfl rfl (Nat.le_of_ble_eq_true rfl) hW gtk sh_4 (by decide) rfl (by decide) (u_16 (B := B) (n := n) (a := (xE B n q)) (q := (xN B n q)) hW gtk qrb grb (by omega) (by omega) (by omega) (rfl) h994) (fun R995 T996 H997 p998 => ?_))
          obtain ⟨e999, w1001, f1002, e1000, p1003⟩ := p998
          subst e999
          subst e1000
          have f1005 := f0.tr f1002 rfl
          show wp _ _ 30 76 [(2, .ref r536), (0, .ref r0), (1, .ref r1)] [] _ H997 _
          have u1006 := TC_k p1003
          refine wp_of e30 c30_76 (rw_aload_n (pc' := 77) (v := .ref r0) rfl rfl rfl ?_)
          refine wp_of e30 c30_77 (rw_bipush (pc' := 79) (z := 23) rfl (by decide) ?_)
          refine wp_of e30 c30_79 (rw_iconst (pc' := 80) rfl ?_)
          refine wp_of e30 c30_80 (rw_bipush (pc' := 82) (z := 24) rfl (by decide) ?_)
          refine wp_of e30 c30_82 (rw_bipush (pc' := 84) (z := 24) rfl (by decide) ?_)
          have k1007 : H997 r0 0 = H r0 0 := (f1002 r0 0 _ g0 rfl)
          have q1008 : H997 r0 0 = (tk : Int) := k1007.trans qtk
          have k1009 : H997 tk 0 = H tk 0 := (f1002 tk 0 _ gtk rfl)
          have q1010 : H997 tk 0 = (rb : Int) := k1009.trans qrb
          have k1011 : H997 r0 3 = H r0 3 := (f1002 r0 3 _ g0 rfl)
          refine wp_of e30 c30_84 (xc_V (pc' := 87) (r := r0) (as := [vI 23, vI 1, vI 24, vI 24]) (st := []) (lm_1_154) rfl rfl (Nat.le_of_ble_eq_true rfl) w1001 g0 sh_3 (by decide) rfl (by decide) (u_29 (B := B) (n := n) (q := ((xN B n q))) w1001 g0 ⟨by omega, by omega⟩ ⟨by omega, by omega⟩ ⟨by omega, by omega⟩ ⟨by omega, by omega⟩ q1008 gtk q1010 grb p1003) (fun R1012 T1013 H1014 p1015 => ?_))
          obtain ⟨e1016, w1018, f1019, z1020, e1017, b1021, p1022⟩ := p1015
          subst e1016
          subst e1017
          rcases p1022 with ⟨a1023, a1024, a1025, a1026, a1027, a1028, a1029, a1030, a1031⟩ | ⟨a1032, a1033, a1034, a1035, a1036⟩
          · have f1037 := f1005.tr f1019 rfl
            show wp _ _ 30 87 [(2, .ref r536), (0, .ref r0), (1, .ref r1)] [vI z1020] _ H1014 _
            have u1038 := TC_k a1031
            refine wp_of e30 c30_87 (rw_if_ne (p1 := 92) (p2 := 90) (by decide) rfl ⟨by omega, by omega⟩ (fun c1039 => ?_) (fun c1039 => ?_))
            · refine wp_of e30 c30_92 (rw_aload_n (pc' := 93) (v := .ref r536) rfl rfl rfl ?_)
              refine wp_of e30 c30_93 (rw_aload_n (pc' := 94) (v := .ref r0) rfl rfl rfl ?_)
              refine wp_of e30 c30_94 (xg_I (pc' := 97) lf_1_158 w1018 g0 sh_3 (by decide) (by decide) ty_3_1 rfl rfl (fun b1040 b1041 => ?_))
              refine wp_of e30 c30_97 (rw_aload_n (pc' := 98) (v := .ref r0) rfl rfl rfl ?_)
              refine wp_of e30 c30_98 (xg_I (pc' := 101) lf_1_164 w1018 g0 sh_3 (by decide) (by decide) ty_3_2 rfl rfl (fun b1042 b1043 => ?_))
              refine wp_of e30 c30_101 (xc_S (pc' := 104) (as := [vI (H1014 r0 1), vI (H1014 r0 2)]) (st := [.ref r536]) (lm_1_194) rfl rfl (Nat.le_of_ble_eq_true rfl) rfl (by decide) (u_31 (lo := (xV B n (xN B n q))) (hi := (xV B n (xN B n (xN B n (xN B n q))))) w1018 ⟨by omega, by omega⟩ ⟨by omega, by omega⟩ (by omega) (by omega) (by omega)) (fun R1044 T1045 H1046 p1047 => ?_))
              obtain ⟨e1048, e1050, z1051, e1049, b1052, p1053⟩ := p1047
              subst e1048
              subst e1049
              subst e1050
              show wp _ _ 30 104 [(2, .ref r536), (0, .ref r0), (1, .ref r1)] [vI z1051, .ref r536] _ H1014 _
              refine wp_of e30 c30_104 (xp_I (pc' := 107) lf_1_197 w1018 g538 sh_35 (by decide) (by decide) ty_35_12 rfl rfl (by omega) (by omega) ⟨by omega, by omega⟩ rfl (fun H1055 e1056 w1057 => ?_))
              have f1058 := f1037.put' e1056 g538 rfl
              have k1059 : H1055 r536 12 = z1051 := wq_u_s e1056
              have _eb : xqb B n q = ((xN B n (xN B n (xN B n ((xN B n q)))))) := by
                unfold xqb
                first | rw [if_pos (by omega)] | rw [if_neg (by omega)]
              have k1060 : H1055 r536 6 = H r536 6 := ((wq_u_j e1056 rfl).trans ((f1019 r536 6 _ g538 rfl).trans (f1002 r536 6 _ g538 rfl)))
              have k1061 : H1055 r536 7 = H r536 7 := ((wq_u_j e1056 rfl).trans ((f1019 r536 7 _ g538 rfl).trans (f1002 r536 7 _ g538 rfl)))
              have k1062 : H1055 r536 8 = H r536 8 := ((wq_u_j e1056 rfl).trans ((f1019 r536 8 _ g538 rfl).trans (f1002 r536 8 _ g538 rfl)))
              have k1063 : H1055 r536 9 = H r536 9 := ((wq_u_j e1056 rfl).trans ((f1019 r536 9 _ g538 rfl).trans (f1002 r536 9 _ g538 rfl)))
              have k1064 : H1055 r536 10 = H r536 10 := ((wq_u_j e1056 rfl).trans ((f1019 r536 10 _ g538 rfl).trans (f1002 r536 10 _ g538 rfl)))
              have k1065 : H1055 r536 11 = H r536 11 := ((wq_u_j e1056 rfl).trans ((f1019 r536 11 _ g538 rfl).trans (f1002 r536 11 _ g538 rfl)))
              have k1066 : H1055 r536 13 = H r536 13 := ((wq_u_j e1056 rfl).trans ((f1019 r536 13 _ g538 rfl).trans (f1002 r536 13 _ g538 rfl)))
              have k1067 : H1055 r536 14 = H r536 14 := ((wq_u_j e1056 rfl).trans ((f1019 r536 14 _ g538 rfl).trans (f1002 r536 14 _ g538 rfl)))
              have _en : H1055 r536 12 = xhs (xnf B n q) (xnt B n q) := by
                unfold xnf xnt
                first | (rw [if_pos (by omega), if_pos (by omega)]; omega) | (rw [if_neg (by omega), if_neg (by omega)]; omega)
              refine wp_of e30 c30_107 (rw_aload_n (pc' := 108) (v := .ref r0) rfl rfl rfl ?_)
              have k1068 : H1055 r0 0 = H997 r0 0 := ((wq_u_t e1056 g538 g0 rfl 0).trans (f1019 r0 0 _ g0 rfl))
              have q1069 : H1055 r0 0 = (tk : Int) := k1068.trans q1008
              refine wp_of e30 c30_108 (xg_K (pc' := 111) lf_1_12 w1057 g0 sh_3 (by decide) (by decide) rfl q1069 rfl ?_)
              refine wp_of e30 c30_111 (rw_gs (pc' := 114) (k := 26) rfl rfl rfl rfl ?_)
              have k1070 : H1055 26 0 = ((42 : Nat) : Int) := (w1057.2 26 _ (w1057.1.2.2 10 (by decide))).2.2 0 (by decide) |> fun z => by have z1 : (42 : Int) ≤ H1055 26 0 ∧ H1055 26 0 ≤ 42 := z; omega
              refine wp_of e30 c30_114 (rw_getR (pc' := 117) (n := 2) (b := 42) (e := _) (lf_1_181).choose_spec.1 (lf_1_181).choose_spec.2.1 (w1057.sh (w1057.1.2.2 10 (by decide)) rfl) (by decide) rfl k1070 rfl ?_)
              have h1071 : TC T H1055 tk B n (xN B n (xN B n (xN B n ((xN B n q))))) := (TC_fr w1018 gtk ((wfr.rf (l := [(35, 12)])).put' e1056 g538 rfl) rfl a1031)
              refine wp_of e30 c30_117 (xc_V (pc' := 120) (r := tk) (as := [.ref 42]) (st := []) (lm_1_185) rfl rfl (Nat.le_of_ble_eq_true rfl) w1057 gtk sh_4 (by decide) rfl (by decide) (u_19_t (B := B) (n := n) (q := ((xN B n (xN B n (xN B n ((xN B n q))))))) (kk := 56377) w1057 gtk rfl (by decide +kernel) h1071) (fun R1072 T1073 H1074 p1075 => ?_))
              obtain ⟨e1076, e1078, z1079, e1077, b1080, p1081⟩ := p1075
              subst e1076
              subst e1077
              subst e1078
              rcases p1081 with ⟨a1082, a1083⟩ | ⟨a1084, a1085⟩
              · show wp _ _ 30 120 [(2, .ref r536), (0, .ref r0), (1, .ref r1)] [vI z1079] _ H1055 _
                refine wp_of e30 c30_120 (rw_if_eq (p1 := 135) (p2 := 123) (by decide) rfl ⟨by omega, by omega⟩ (fun c1086 => ?_) (fun c1086 => ?_))
                · exfalso
                  omega
                · refine wp_of e30 c30_123 (rw_aload_n (pc' := 124) (v := .ref r0) rfl rfl rfl ?_)
                  refine wp_of e30 c30_124 (xg_K (pc' := 127) lf_1_12 w1057 g0 sh_3 (by decide) (by decide) rfl q1069 rfl ?_)
                  have k1087 : H1055 tk 0 = H997 tk 0 := ((wq_u_t e1056 g538 gtk rfl 0).trans (f1019 tk 0 _ gtk rfl))
                  have q1088 : H1055 tk 0 = (rb : Int) := k1087.trans q1010
                  have k1089 : H1055 tk 1 = H1014 tk 1 := (wq_u_t e1056 g538 gtk rfl 1)
                  have k1090 : H1055 tk 2 = H1014 tk 2 := (wq_u_t e1056 g538 gtk rfl 2)
                  have h1091 : TP T H1055 rb B := (TP_fr w1018 grb ((wfr.rf (l := [(35, 12)])).put' e1056 g538 rfl) rfl (TP_fr w1001 grb f1019 rfl (TP_fr hW grb f1002 rfl h994)))
                  refine wp_of e30 c30_127 (xc_V (pc' := 130) (r := tk) (as := []) (st := []) (lm_1_74) rfl rfl (Nat.le_of_ble_eq_true rfl) w1057 gtk sh_4 (by decide) rfl (by decide) (u_16 (B := B) (n := n) (a := (xE B n ((xN B n (xN B n (xN B n ((xN B n q)))))))) (q := (xN B n ((xN B n (xN B n (xN B n ((xN B n q)))))))) w1057 gtk q1088 grb (by omega) (by omega) (by omega) (rfl) h1091) (fun R1092 T1093 H1094 p1095 => ?_))
                  obtain ⟨e1096, w1098, f1099, e1097, p1100⟩ := p1095
                  subst e1096
                  subst e1097
                  have f1102 := f1058.tr f1099 rfl
                  show wp _ _ 30 130 [(2, .ref r536), (0, .ref r0), (1, .ref r1)] [] _ H1094 _
                  have u1103 := TC_k p1100
                  refine wp_of e30 c30_130 (rw_aload_n (pc' := 131) (v := .ref r536) rfl rfl rfl ?_)
                  refine wp_of e30 c30_131 (rw_iconst (pc' := 132) rfl ?_)
                  refine wp_of e30 c30_132 (xp_Z (pc' := 135) lf_1_203 w1098 g538 sh_35 (by decide) (by decide) ty_35_13 rfl rfl (by omega) (by omega) rfl (fun H1104 e1105 w1106 => ?_))
                  have f1107 := f1102.put' e1105 g538 rfl
                  have k1108 : H1104 r536 13 = 1 := wq_u_s e1105
                  have _ec : xqc B n ((xN B n (xN B n (xN B n ((xN B n q)))))) = ((xN B n ((xN B n (xN B n (xN B n ((xN B n q)))))))) := by
                    unfold xqc
                    first | rw [if_pos (by omega)] | rw [if_neg (by omega)]
                  have k1109 : H1104 r536 6 = H1055 r536 6 := ((wq_u_j e1105 rfl).trans (f1099 r536 6 _ g538 rfl))
                  have k1110 : H1104 r536 7 = H1055 r536 7 := ((wq_u_j e1105 rfl).trans (f1099 r536 7 _ g538 rfl))
                  have k1111 : H1104 r536 8 = H1055 r536 8 := ((wq_u_j e1105 rfl).trans (f1099 r536 8 _ g538 rfl))
                  have k1112 : H1104 r536 9 = H1055 r536 9 := ((wq_u_j e1105 rfl).trans (f1099 r536 9 _ g538 rfl))
                  have k1113 : H1104 r536 10 = H1055 r536 10 := ((wq_u_j e1105 rfl).trans (f1099 r536 10 _ g538 rfl))
                  have k1114 : H1104 r536 11 = H1055 r536 11 := ((wq_u_j e1105 rfl).trans (f1099 r536 11 _ g538 rfl))
                  have k1115 : H1104 r536 12 = H1055 r536 12 := ((wq_u_j e1105 rfl).trans (f1099 r536 12 _ g538 rfl))
                  have k1116 : H1104 r536 14 = H1055 r536 14 := ((wq_u_j e1105 rfl).trans (f1099 r536 14 _ g538 rfl))
                  have _ew : xaw B n ((xN B n (xN B n (xN B n ((xN B n q)))))) = H1104 r536 13 := by
                    unfold xaw
                    first | (rw [if_pos (by omega)]; omega) | (rw [if_neg (by omega)]; omega)
                  refine wp_of e30 c30_135 (rw_aload_n (pc' := 136) (v := .ref r1) rfl rfl rfl ?_)
                  refine wp_of e30 c30_136 (rw_dup (pc' := 137) rfl rfl ?_)
                  have k1117 : H1104 r1 10 = H r1 10 := ((wq_u_t e1105 g538 g1 rfl 10).trans ((f1099 r1 10 _ g1 rfl).trans ((wq_u_t e1056 g538 g1 rfl 10).trans ((f1019 r1 10 _ g1 rfl).trans (f1002 r1 10 _ g1 rfl)))))
                  refine wp_of e30 c30_137 (xg_I (pc' := 140) lf_1_44 w1106 g1 sh_27 (by decide) (by decide) ty_27_10 rfl rfl (fun b1118 b1119 => ?_))
                  refine wp_of e30 c30_140 (rw_iconst (pc' := 141) rfl ?_)
                  refine wp_of e30 c30_141 (rw_iadd (pc' := 142) rfl ?_)
                  refine wp_of e30 c30_142 (xp_I (pc' := 145) lf_1_44 w1106 g1 sh_27 (by decide) (by decide) ty_27_10 rfl rfl (by omega) (by omega) ⟨by omega, by omega⟩ rfl (fun H1120 e1121 w1122 => ?_))
                  have f1123 := f1107.put' e1121 g1 rfl
                  have k1124 : H1120 r1 10 = (H1104 r1 10) + 1 := wq_u_s e1121
                  refine wp_of e30 c30_145 (rw_iconst (pc' := 146) rfl ?_)
                  have k1125 : H1120 r0 3 = H1014 r0 3 := ((wq_u_t e1121 g1 g0 rfl 3).trans ((wq_u_t e1105 g538 g0 rfl 3).trans ((f1099 r0 3 _ g0 rfl).trans (wq_u_t e1056 g538 g0 rfl 3))))
                  have k1126 : H1120 r1 7 = H r1 7 := ((wq_u_j e1121 rfl).trans ((wq_u_t e1105 g538 g1 rfl 7).trans ((f1099 r1 7 _ g1 rfl).trans ((wq_u_t e1056 g538 g1 rfl 7).trans ((f1019 r1 7 _ g1 rfl).trans (f1002 r1 7 _ g1 rfl))))))
                  have k1127 : H1120 r1 8 = H r1 8 := ((wq_u_j e1121 rfl).trans ((wq_u_t e1105 g538 g1 rfl 8).trans ((f1099 r1 8 _ g1 rfl).trans ((wq_u_t e1056 g538 g1 rfl 8).trans ((f1019 r1 8 _ g1 rfl).trans (f1002 r1 8 _ g1 rfl))))))
                  have k1128 : H1120 r1 9 = H r1 9 := ((wq_u_j e1121 rfl).trans ((wq_u_t e1105 g538 g1 rfl 9).trans ((f1099 r1 9 _ g1 rfl).trans ((wq_u_t e1056 g538 g1 rfl 9).trans ((f1019 r1 9 _ g1 rfl).trans (f1002 r1 9 _ g1 rfl))))))
                  have k1129 : H1120 r1 11 = H r1 11 := ((wq_u_j e1121 rfl).trans ((wq_u_t e1105 g538 g1 rfl 11).trans ((f1099 r1 11 _ g1 rfl).trans ((wq_u_t e1056 g538 g1 rfl 11).trans ((f1019 r1 11 _ g1 rfl).trans (f1002 r1 11 _ g1 rfl))))))
                  have k1130 : H1120 r1 12 = H r1 12 := ((wq_u_j e1121 rfl).trans ((wq_u_t e1105 g538 g1 rfl 12).trans ((f1099 r1 12 _ g1 rfl).trans ((wq_u_t e1056 g538 g1 rfl 12).trans ((f1019 r1 12 _ g1 rfl).trans (f1002 r1 12 _ g1 rfl))))))
                  have k1131 : H1120 r1 13 = H r1 13 := ((wq_u_j e1121 rfl).trans ((wq_u_t e1105 g538 g1 rfl 13).trans ((f1099 r1 13 _ g1 rfl).trans ((wq_u_t e1056 g538 g1 rfl 13).trans ((f1019 r1 13 _ g1 rfl).trans (f1002 r1 13 _ g1 rfl))))))
                  have k1132 : H1120 r1 14 = H r1 14 := ((wq_u_j e1121 rfl).trans ((wq_u_t e1105 g538 g1 rfl 14).trans ((f1099 r1 14 _ g1 rfl).trans ((wq_u_t e1056 g538 g1 rfl 14).trans ((f1019 r1 14 _ g1 rfl).trans (f1002 r1 14 _ g1 rfl))))))
                  have k1133 : H1120 r1 15 = H r1 15 := ((wq_u_j e1121 rfl).trans ((wq_u_t e1105 g538 g1 rfl 15).trans ((f1099 r1 15 _ g1 rfl).trans ((wq_u_t e1056 g538 g1 rfl 15).trans ((f1019 r1 15 _ g1 rfl).trans (f1002 r1 15 _ g1 rfl))))))
                  have k1134 : H1120 r1 16 = H r1 16 := ((wq_u_j e1121 rfl).trans ((wq_u_t e1105 g538 g1 rfl 16).trans ((f1099 r1 16 _ g1 rfl).trans ((wq_u_t e1056 g538 g1 rfl 16).trans ((f1019 r1 16 _ g1 rfl).trans (f1002 r1 16 _ g1 rfl))))))
                  have k1135 : H1120 r536 6 = H1104 r536 6 := (wq_u_t e1121 g1 g538 rfl 6)
                  have k1136 : H1120 r536 7 = H1104 r536 7 := (wq_u_t e1121 g1 g538 rfl 7)
                  have k1137 : H1120 r536 8 = H1104 r536 8 := (wq_u_t e1121 g1 g538 rfl 8)
                  have k1138 : H1120 r536 9 = H1104 r536 9 := (wq_u_t e1121 g1 g538 rfl 9)
                  have k1139 : H1120 r536 10 = H1104 r536 10 := (wq_u_t e1121 g1 g538 rfl 10)
                  have k1140 : H1120 r536 11 = H1104 r536 11 := (wq_u_t e1121 g1 g538 rfl 11)
                  have k1141 : H1120 r536 12 = H1104 r536 12 := (wq_u_t e1121 g1 g538 rfl 12)
                  have k1142 : H1120 r536 13 = H1104 r536 13 := (wq_u_t e1121 g1 g538 rfl 13)
                  have k1143 : H1120 r536 14 = H1104 r536 14 := (wq_u_t e1121 g1 g538 rfl 14)
                  have o1144 : (xcs B n q) = (0, q, (xN B n ((xN B n (xN B n (xN B n ((xN B n q)))))))) := by
                    unfold xcs xca xcb
                    try rw [_ea]
                    try rw [_eb]
                    try rw [_ec]
                    repeat first | rw [xs_0 (by omega)] | rw [xs_1 (by omega)] | rw [if_pos (by omega)] | rw [if_neg (by omega)]
                    first | done | rfl | assumption | (exfalso; omega) | (refine Prod.ext ?_ (Prod.ext ?_ ?_) <;> (try dsimp only) <;> omega)
                  have o1144a : ((xcs B n q)).1 = 0 := by rw [o1144]
                  have o1144b : ((xcs B n q)).2.1 = q := by rw [o1144]
                  have o1144c : ((xcs B n q)).2.2 = (xN B n ((xN B n (xN B n (xN B n ((xN B n q))))))) := by rw [o1144]
                  have _l := @xdper_v B n y d
                  have _k := @xdper_k (H r1 10).toNat d B n y (by omega)
                  rw [← p1] at _k
                  rw [_ea, _eb] at _k
                  have _f : H1120 r536 6 = xdper B n y d 1 (H r1 10).toNat ∧ H1120 r536 7 = xdper B n y d 2 (H r1 10).toNat ∧ H1120 r536 8 = xdper B n y d 3 (H r1 10).toNat ∧ H1120 r536 9 = xdper B n y d 4 (H r1 10).toNat ∧ H1120 r536 10 = xdper B n y d 5 (H r1 10).toNat ∧ H1120 r536 11 = xdper B n y d 6 (H r1 10).toNat ∧ H1120 r536 12 = xhs (xdper B n y d 7 (H r1 10).toNat) (xdper B n y d 8 (H r1 10).toNat) ∧ H1120 r536 13 = xdper B n y d 9 (H r1 10).toNat ∧ H1120 r536 14 = 0 := ⟨by omega, by omega, by omega, by omega, by omega, by omega, by rw [_k.2.2.2.2.2.2.1, _k.2.2.2.2.2.2.2.1]; omega, by omega, by omega⟩
                  have h1145 : TC T H1120 tk B n (xN B n ((xN B n (xN B n (xN B n ((xN B n q))))))) := (TC_fr w1106 gtk ((wfr.rf (l := [(27, 10)])).put' e1121 g1 rfl) rfl (TC_fr w1098 gtk ((wfr.rf (l := [(35, 13)])).put' e1105 g538 rfl) rfl p1100))
                  have k1146 : H1120 r1 0 = H r1 0 := ((wq_u_j e1121 rfl).trans ((wq_u_t e1105 g538 g1 rfl 0).trans ((f1099 r1 0 _ g1 rfl).trans ((wq_u_t e1056 g538 g1 rfl 0).trans ((f1019 r1 0 _ g1 rfl).trans (f1002 r1 0 _ g1 rfl))))))
                  have q1147 : H1120 r1 0 = (r531 : Int) := k1146.trans q532
                  have k1148 : H1120 r531 ((H r1 10).toNat) = H r531 ((H r1 10).toNat) := ((wq_u_t e1121 g1 g533 rfl ((H r1 10).toNat)).trans ((wq_u_t e1105 g538 g533 rfl ((H r1 10).toNat)).trans ((f1099 r531 ((H r1 10).toNat) _ g533 rfl).trans ((wq_u_t e1056 g538 g533 rfl ((H r1 10).toNat)).trans ((f1019 r531 ((H r1 10).toNat) _ g533 rfl).trans (f1002 r531 ((H r1 10).toNat) _ g533 rfl))))))
                  have q1149 : H1120 r531 ((H r1 10).toNat) = (r536 : Int) := k1148.trans q537
                  have h1150 : ST T H1120 r1 (d 13) := (ST_fr w1106 g1 ((wfr.rf (l := [(27, 10)])).put' e1121 g1 rfl) rfl (ST_fr w1098 g1 ((wfr.rf (l := [(35, 13)])).put' e1105 g538 rfl) rfl (ST_fr w1057 g1 f1099 rfl (ST_fr w1018 g1 ((wfr.rf (l := [(35, 12)])).put' e1056 g538 rfl) rfl (ST_fr w1001 g1 f1019 rfl (ST_fr hW g1 f1002 rfl h525))))))
                  have h1151 : SV T H1120 r1 (d 13) 24 := (SV_fr w1106 g1 ((wfr.rf (l := [(27, 10)])).put' e1121 g1 rfl) rfl (SV_fr w1098 g1 ((wfr.rf (l := [(35, 13)])).put' e1105 g538 rfl) rfl (SV_fr w1057 g1 f1099 rfl (SV_fr w1018 g1 ((wfr.rf (l := [(35, 12)])).put' e1056 g538 rfl) rfl (SV_fr w1001 g1 f1019 rfl (SV_fr hW g1 f1002 rfl h526))))))
                  have h1152 : DA3 T H1120 r1 (d 0 5) (d 12) := (DA3_fr w1106 g1 ((wfr.rf (l := [(27, 10)])).put' e1121 g1 rfl) rfl (DA3_fr w1098 g1 ((wfr.rf (l := [(35, 13)])).put' e1105 g538 rfl) rfl (DA3_fr w1057 g1 f1099 rfl (DA3_fr w1018 g1 ((wfr.rf (l := [(35, 12)])).put' e1056 g538 rfl) rfl (DA3_fr w1001 g1 f1019 rfl (DA3_fr hW g1 f1002 rfl h527))))))
                  have h1153 : DA4 T H1120 r1 (d 0 6) (d 14) := (DA4_fr w1106 g1 ((wfr.rf (l := [(27, 10)])).put' e1121 g1 rfl) rfl (DA4_fr w1098 g1 ((wfr.rf (l := [(35, 13)])).put' e1105 g538 rfl) rfl (DA4_fr w1057 g1 f1099 rfl (DA4_fr w1018 g1 ((wfr.rf (l := [(35, 12)])).put' e1056 g538 rfl) rfl (DA4_fr w1001 g1 f1019 rfl (DA4_fr hW g1 f1002 rfl h528))))))
                  have h1154 : DA5 T H1120 r1 (d 0 6) (d 15) := (DA5_fr w1106 g1 ((wfr.rf (l := [(27, 10)])).put' e1121 g1 rfl) rfl (DA5_fr w1098 g1 ((wfr.rf (l := [(35, 13)])).put' e1105 g538 rfl) rfl (DA5_fr w1057 g1 f1099 rfl (DA5_fr w1018 g1 ((wfr.rf (l := [(35, 12)])).put' e1056 g538 rfl) rfl (DA5_fr w1001 g1 f1019 rfl (DA5_fr hW g1 f1002 rfl h529))))))
                  have h1155 : DA6 T H1120 r1 (d 0 7) (d 16) := (DA6_fr w1106 g1 ((wfr.rf (l := [(27, 10)])).put' e1121 g1 rfl) rfl (DA6_fr w1098 g1 ((wfr.rf (l := [(35, 13)])).put' e1105 g538 rfl) rfl (DA6_fr w1057 g1 f1099 rfl (DA6_fr w1018 g1 ((wfr.rf (l := [(35, 12)])).put' e1056 g538 rfl) rfl (DA6_fr w1001 g1 f1019 rfl (DA6_fr hW g1 f1002 rfl h530))))))
                  exact wp_zreturn e30 c30_146 rfl (by omega) ⟨rfl, w1122, f1123, 1, rfl, ⟨by omega, by omega⟩, (Or.inl ⟨by omega, by omega, by omega, by omega, by rw [o1144]; exact h1145, DC_mk ⟨by omega, by omega, by omega, by omega, by omega, by omega, by omega, by omega, by omega, by omega, by omega, by omega, by omega, by omega, by omega, by omega⟩ (DQ_per g538 (DQ_oth hW g1 f1123 rfl hDD_r1 q1147 q1149 (by omega) (by omega) (fun a ha ga => ((wq_u_tf e1121 g1 ga (by decide)).trans ((wq_u_nf e1105 ha).trans ((f1099.fn ga rfl).trans ((wq_u_nf e1056 ha).trans ((f1019.fn ga rfl).trans (f1002.fn ga rfl))))))) hDC_r1.2.1) (by omega) q1147 q1149 (k := (H r1 10).toNat) (by omega) _f) h1150 h1151 h1152 h1153 h1154 h1155 ⟨rfl, rfl, rfl, rfl, rfl⟩ ⟨by omega, by omega, by omega⟩⟩)⟩
              · show wp _ _ 30 120 [(2, .ref r536), (0, .ref r0), (1, .ref r1)] [vI z1079] _ H1055 _
                refine wp_of e30 c30_120 (rw_if_eq (p1 := 135) (p2 := 123) (by decide) rfl ⟨by omega, by omega⟩ (fun c1156 => ?_) (fun c1156 => ?_))
                · have _ec : xqc B n ((xN B n (xN B n (xN B n ((xN B n q)))))) = ((xN B n (xN B n (xN B n ((xN B n q)))))) := by
                    unfold xqc
                    first | rw [if_pos (by omega)] | rw [if_neg (by omega)]
                  have _ew : xaw B n ((xN B n (xN B n (xN B n ((xN B n q)))))) = H1055 r536 13 := by
                    unfold xaw
                    first | (rw [if_pos (by omega)]; omega) | (rw [if_neg (by omega)]; omega)
                  refine wp_of e30 c30_135 (rw_aload_n (pc' := 136) (v := .ref r1) rfl rfl rfl ?_)
                  refine wp_of e30 c30_136 (rw_dup (pc' := 137) rfl rfl ?_)
                  have k1157 : H1055 r1 10 = H r1 10 := ((wq_u_t e1056 g538 g1 rfl 10).trans ((f1019 r1 10 _ g1 rfl).trans (f1002 r1 10 _ g1 rfl)))
                  refine wp_of e30 c30_137 (xg_I (pc' := 140) lf_1_44 w1057 g1 sh_27 (by decide) (by decide) ty_27_10 rfl rfl (fun b1158 b1159 => ?_))
                  refine wp_of e30 c30_140 (rw_iconst (pc' := 141) rfl ?_)
                  refine wp_of e30 c30_141 (rw_iadd (pc' := 142) rfl ?_)
                  refine wp_of e30 c30_142 (xp_I (pc' := 145) lf_1_44 w1057 g1 sh_27 (by decide) (by decide) ty_27_10 rfl rfl (by omega) (by omega) ⟨by omega, by omega⟩ rfl (fun H1160 e1161 w1162 => ?_))
                  have f1163 := f1058.put' e1161 g1 rfl
                  have k1164 : H1160 r1 10 = (H1055 r1 10) + 1 := wq_u_s e1161
                  refine wp_of e30 c30_145 (rw_iconst (pc' := 146) rfl ?_)
                  have k1165 : H1160 r0 3 = H1014 r0 3 := ((wq_u_t e1161 g1 g0 rfl 3).trans (wq_u_t e1056 g538 g0 rfl 3))
                  have k1166 : H1160 r1 7 = H r1 7 := ((wq_u_j e1161 rfl).trans ((wq_u_t e1056 g538 g1 rfl 7).trans ((f1019 r1 7 _ g1 rfl).trans (f1002 r1 7 _ g1 rfl))))
                  have k1167 : H1160 r1 8 = H r1 8 := ((wq_u_j e1161 rfl).trans ((wq_u_t e1056 g538 g1 rfl 8).trans ((f1019 r1 8 _ g1 rfl).trans (f1002 r1 8 _ g1 rfl))))
                  have k1168 : H1160 r1 9 = H r1 9 := ((wq_u_j e1161 rfl).trans ((wq_u_t e1056 g538 g1 rfl 9).trans ((f1019 r1 9 _ g1 rfl).trans (f1002 r1 9 _ g1 rfl))))
                  have k1169 : H1160 r1 11 = H r1 11 := ((wq_u_j e1161 rfl).trans ((wq_u_t e1056 g538 g1 rfl 11).trans ((f1019 r1 11 _ g1 rfl).trans (f1002 r1 11 _ g1 rfl))))
                  have k1170 : H1160 r1 12 = H r1 12 := ((wq_u_j e1161 rfl).trans ((wq_u_t e1056 g538 g1 rfl 12).trans ((f1019 r1 12 _ g1 rfl).trans (f1002 r1 12 _ g1 rfl))))
                  have k1171 : H1160 r1 13 = H r1 13 := ((wq_u_j e1161 rfl).trans ((wq_u_t e1056 g538 g1 rfl 13).trans ((f1019 r1 13 _ g1 rfl).trans (f1002 r1 13 _ g1 rfl))))
                  have k1172 : H1160 r1 14 = H r1 14 := ((wq_u_j e1161 rfl).trans ((wq_u_t e1056 g538 g1 rfl 14).trans ((f1019 r1 14 _ g1 rfl).trans (f1002 r1 14 _ g1 rfl))))
                  have k1173 : H1160 r1 15 = H r1 15 := ((wq_u_j e1161 rfl).trans ((wq_u_t e1056 g538 g1 rfl 15).trans ((f1019 r1 15 _ g1 rfl).trans (f1002 r1 15 _ g1 rfl))))
                  have k1174 : H1160 r1 16 = H r1 16 := ((wq_u_j e1161 rfl).trans ((wq_u_t e1056 g538 g1 rfl 16).trans ((f1019 r1 16 _ g1 rfl).trans (f1002 r1 16 _ g1 rfl))))
                  have k1175 : H1160 r536 6 = H1055 r536 6 := (wq_u_t e1161 g1 g538 rfl 6)
                  have k1176 : H1160 r536 7 = H1055 r536 7 := (wq_u_t e1161 g1 g538 rfl 7)
                  have k1177 : H1160 r536 8 = H1055 r536 8 := (wq_u_t e1161 g1 g538 rfl 8)
                  have k1178 : H1160 r536 9 = H1055 r536 9 := (wq_u_t e1161 g1 g538 rfl 9)
                  have k1179 : H1160 r536 10 = H1055 r536 10 := (wq_u_t e1161 g1 g538 rfl 10)
                  have k1180 : H1160 r536 11 = H1055 r536 11 := (wq_u_t e1161 g1 g538 rfl 11)
                  have k1181 : H1160 r536 12 = H1055 r536 12 := (wq_u_t e1161 g1 g538 rfl 12)
                  have k1182 : H1160 r536 13 = H1055 r536 13 := (wq_u_t e1161 g1 g538 rfl 13)
                  have k1183 : H1160 r536 14 = H1055 r536 14 := (wq_u_t e1161 g1 g538 rfl 14)
                  have o1184 : (xcs B n q) = (0, q, (xN B n (xN B n (xN B n ((xN B n q)))))) := by
                    unfold xcs xca xcb
                    try rw [_ea]
                    try rw [_eb]
                    try rw [_ec]
                    repeat first | rw [xs_0 (by omega)] | rw [xs_1 (by omega)] | rw [if_pos (by omega)] | rw [if_neg (by omega)]
                    first | done | rfl | assumption | (exfalso; omega) | (refine Prod.ext ?_ (Prod.ext ?_ ?_) <;> (try dsimp only) <;> omega)
                  have o1184a : ((xcs B n q)).1 = 0 := by rw [o1184]
                  have o1184b : ((xcs B n q)).2.1 = q := by rw [o1184]
                  have o1184c : ((xcs B n q)).2.2 = (xN B n (xN B n (xN B n ((xN B n q))))) := by rw [o1184]
                  have _l := @xdper_v B n y d
                  have _k := @xdper_k (H r1 10).toNat d B n y (by omega)
                  rw [← p1] at _k
                  rw [_ea, _eb] at _k
                  have _f : H1160 r536 6 = xdper B n y d 1 (H r1 10).toNat ∧ H1160 r536 7 = xdper B n y d 2 (H r1 10).toNat ∧ H1160 r536 8 = xdper B n y d 3 (H r1 10).toNat ∧ H1160 r536 9 = xdper B n y d 4 (H r1 10).toNat ∧ H1160 r536 10 = xdper B n y d 5 (H r1 10).toNat ∧ H1160 r536 11 = xdper B n y d 6 (H r1 10).toNat ∧ H1160 r536 12 = xhs (xdper B n y d 7 (H r1 10).toNat) (xdper B n y d 8 (H r1 10).toNat) ∧ H1160 r536 13 = xdper B n y d 9 (H r1 10).toNat ∧ H1160 r536 14 = 0 := ⟨by omega, by omega, by omega, by omega, by omega, by omega, by rw [_k.2.2.2.2.2.2.1, _k.2.2.2.2.2.2.2.1]; omega, by omega, by omega⟩
                  have h1185 : TC T H1160 tk B n (xN B n (xN B n (xN B n ((xN B n q))))) := (TC_fr w1057 gtk ((wfr.rf (l := [(27, 10)])).put' e1161 g1 rfl) rfl h1071)
                  have k1186 : H1160 r1 0 = H r1 0 := ((wq_u_j e1161 rfl).trans ((wq_u_t e1056 g538 g1 rfl 0).trans ((f1019 r1 0 _ g1 rfl).trans (f1002 r1 0 _ g1 rfl))))
                  have q1187 : H1160 r1 0 = (r531 : Int) := k1186.trans q532
                  have k1188 : H1160 r531 ((H r1 10).toNat) = H r531 ((H r1 10).toNat) := ((wq_u_t e1161 g1 g533 rfl ((H r1 10).toNat)).trans ((wq_u_t e1056 g538 g533 rfl ((H r1 10).toNat)).trans ((f1019 r531 ((H r1 10).toNat) _ g533 rfl).trans (f1002 r531 ((H r1 10).toNat) _ g533 rfl))))
                  have q1189 : H1160 r531 ((H r1 10).toNat) = (r536 : Int) := k1188.trans q537
                  have h1190 : ST T H1160 r1 (d 13) := (ST_fr w1057 g1 ((wfr.rf (l := [(27, 10)])).put' e1161 g1 rfl) rfl (ST_fr w1018 g1 ((wfr.rf (l := [(35, 12)])).put' e1056 g538 rfl) rfl (ST_fr w1001 g1 f1019 rfl (ST_fr hW g1 f1002 rfl h525))))
                  have h1191 : SV T H1160 r1 (d 13) 24 := (SV_fr w1057 g1 ((wfr.rf (l := [(27, 10)])).put' e1161 g1 rfl) rfl (SV_fr w1018 g1 ((wfr.rf (l := [(35, 12)])).put' e1056 g538 rfl) rfl (SV_fr w1001 g1 f1019 rfl (SV_fr hW g1 f1002 rfl h526))))
                  have h1192 : DA3 T H1160 r1 (d 0 5) (d 12) := (DA3_fr w1057 g1 ((wfr.rf (l := [(27, 10)])).put' e1161 g1 rfl) rfl (DA3_fr w1018 g1 ((wfr.rf (l := [(35, 12)])).put' e1056 g538 rfl) rfl (DA3_fr w1001 g1 f1019 rfl (DA3_fr hW g1 f1002 rfl h527))))
                  have h1193 : DA4 T H1160 r1 (d 0 6) (d 14) := (DA4_fr w1057 g1 ((wfr.rf (l := [(27, 10)])).put' e1161 g1 rfl) rfl (DA4_fr w1018 g1 ((wfr.rf (l := [(35, 12)])).put' e1056 g538 rfl) rfl (DA4_fr w1001 g1 f1019 rfl (DA4_fr hW g1 f1002 rfl h528))))
                  have h1194 : DA5 T H1160 r1 (d 0 6) (d 15) := (DA5_fr w1057 g1 ((wfr.rf (l := [(27, 10)])).put' e1161 g1 rfl) rfl (DA5_fr w1018 g1 ((wfr.rf (l := [(35, 12)])).put' e1056 g538 rfl) rfl (DA5_fr w1001 g1 f1019 rfl (DA5_fr hW g1 f1002 rfl h529))))
                  have h1195 : DA6 T H1160 r1 (d 0 7) (d 16) := (DA6_fr w1057 g1 ((wfr.rf (l := [(27, 10)])).put' e1161 g1 rfl) rfl (DA6_fr w1018 g1 ((wfr.rf (l := [(35, 12)])).put' e1056 g538 rfl) rfl (DA6_fr w1001 g1 f1019 rfl (DA6_fr hW g1 f1002 rfl h530))))
                  exact wp_zreturn e30 c30_146 rfl (by omega) ⟨rfl, w1162, f1163, 1, rfl, ⟨by omega, by omega⟩, (Or.inl ⟨by omega, by omega, by omega, by omega, by rw [o1184]; exact h1185, DC_mk ⟨by omega, by omega, by omega, by omega, by omega, by omega, by omega, by omega, by omega, by omega, by omega, by omega, by omega, by omega, by omega, by omega⟩ (DQ_per g538 (DQ_oth hW g1 f1163 rfl hDD_r1 q1187 q1189 (by omega) (by omega) (fun a ha ga => ((wq_u_tf e1161 g1 ga (by decide)).trans ((wq_u_nf e1056 ha).trans ((f1019.fn ga rfl).trans (f1002.fn ga rfl))))) hDC_r1.2.1) (by omega) q1187 q1189 (k := (H r1 10).toNat) (by omega) _f) h1190 h1191 h1192 h1193 h1194 h1195 ⟨rfl, rfl, rfl, rfl, rfl⟩ ⟨by omega, by omega, by omega⟩⟩)⟩
                · exfalso
                  omega
            · exfalso
              omega
          · have f1196 := f1005.tr f1019 rfl
            show wp _ _ 30 87 [(2, .ref r536), (0, .ref r0), (1, .ref r1)] [vI z1020] _ H1014 _
            refine wp_of e30 c30_87 (rw_if_ne (p1 := 92) (p2 := 90) (by decide) rfl ⟨by omega, by omega⟩ (fun c1197 => ?_) (fun c1197 => ?_))
            · exfalso
              omega
            · refine wp_of e30 c30_90 (rw_iconst (pc' := 91) rfl ?_)
              have o1198 : (xcs B n q) = ((xrg B n ((xN B n q)) 23 1 24 24).1, (xrg B n ((xN B n q)) 23 1 24 24).2.1, (xrg B n ((xN B n q)) 23 1 24 24).2.2) := by
                unfold xcs xca xcb
                try rw [_ea]
                try rw [_eb]
                try rw [_ec]
                repeat first | rw [xs_0 (by omega)] | rw [xs_1 (by omega)] | rw [if_pos (by omega)] | rw [if_neg (by omega)]
                first | done | rfl | assumption | (exfalso; omega) | (refine Prod.ext ?_ (Prod.ext ?_ ?_) <;> (try dsimp only) <;> omega)
              have o1198a : ((xcs B n q)).1 = (xrg B n ((xN B n q)) 23 1 24 24).1 := by rw [o1198]
              have o1198b : ((xcs B n q)).2.1 = (xrg B n ((xN B n q)) 23 1 24 24).2.1 := by rw [o1198]
              have o1198c : ((xcs B n q)).2.2 = (xrg B n ((xN B n q)) 23 1 24 24).2.2 := by rw [o1198]
              exact wp_zreturn e30 c30_91 rfl (by omega) ⟨rfl, w1018, f1196, 0, rfl, ⟨by omega, by omega⟩, (Or.inr ⟨by omega, by omega, by omega, by omega, by omega⟩)⟩
      · show wp _ _ 30 66 [(2, .ref r536), (0, .ref r0), (1, .ref r1)] [vI z986] _ H _
        refine wp_of e30 c30_66 (rw_if_eq (p1 := 107) (p2 := 69) (by decide) rfl ⟨by omega, by omega⟩ (fun c1199 => ?_) (fun c1199 => ?_))
        · have _eb : xqb B n q = q := by
            unfold xqb
            first | rw [if_pos (by omega)] | rw [if_neg (by omega)]
          have _en : H r536 12 = xhs (xnf B n q) (xnt B n q) := by
            unfold xnf xnt
            first | (rw [if_pos (by omega), if_pos (by omega)]; omega) | (rw [if_neg (by omega), if_neg (by omega)]; omega)
          refine wp_of e30 c30_107 (rw_aload_n (pc' := 108) (v := .ref r0) rfl rfl rfl ?_)
          refine wp_of e30 c30_108 (xg_K (pc' := 111) lf_1_12 hW g0 sh_3 (by decide) (by decide) rfl qtk rfl ?_)
          refine wp_of e30 c30_111 (rw_gs (pc' := 114) (k := 26) rfl rfl rfl rfl ?_)
          have k1200 : H 26 0 = ((42 : Nat) : Int) := (hW.2 26 _ (hW.1.2.2 10 (by decide))).2.2 0 (by decide) |> fun z => by have z1 : (42 : Int) ≤ H 26 0 ∧ H 26 0 ≤ 42 := z; omega
          refine wp_of e30 c30_114 (rw_getR (pc' := 117) (n := 2) (b := 42) (e := _) (lf_1_181).choose_spec.1 (lf_1_181).choose_spec.2.1 (hW.sh (hW.1.2.2 10 (by decide)) rfl) (by decide) rfl k1200 rfl ?_)
          refine wp_of e30 c30_117 (xc_V (pc' := 120) (r := tk) (as := [.ref 42]) (st := []) (lm_1_185) rfl rfl (Nat.le_of_ble_eq_true rfl) hW gtk sh_4 (by decide) rfl (by decide) (u_19_t (B := B) (n := n) (q := q) (kk := 56377) hW gtk rfl (by decide +kernel) hTC_tk) (fun R1201 T1202 H1203 p1204 => ?_))
          obtain ⟨e1205, e1207, z1208, e1206, b1209, p1210⟩ := p1204
          subst e1205
          subst e1206
          subst e1207
          rcases p1210 with ⟨a1211, a1212⟩ | ⟨a1213, a1214⟩
          · show wp _ _ 30 120 [(2, .ref r536), (0, .ref r0), (1, .ref r1)] [vI z1208] _ H _
            refine wp_of e30 c30_120 (rw_if_eq (p1 := 135) (p2 := 123) (by decide) rfl ⟨by omega, by omega⟩ (fun c1215 => ?_) (fun c1215 => ?_))
            · exfalso
              omega
            · refine wp_of e30 c30_123 (rw_aload_n (pc' := 124) (v := .ref r0) rfl rfl rfl ?_)
              refine wp_of e30 c30_124 (xg_K (pc' := 127) lf_1_12 hW g0 sh_3 (by decide) (by decide) rfl qtk rfl ?_)
              have h1216 : TP T H rb B := TC_tp hTC_tk qrb
              refine wp_of e30 c30_127 (xc_V (pc' := 130) (r := tk) (as := []) (st := []) (lm_1_74) rfl rfl (Nat.le_of_ble_eq_true rfl) hW gtk sh_4 (by decide) rfl (by decide) (u_16 (B := B) (n := n) (a := (xE B n q)) (q := (xN B n q)) hW gtk qrb grb (by omega) (by omega) (by omega) (rfl) h1216) (fun R1217 T1218 H1219 p1220 => ?_))
              obtain ⟨e1221, w1223, f1224, e1222, p1225⟩ := p1220
              subst e1221
              subst e1222
              have f1227 := f0.tr f1224 rfl
              show wp _ _ 30 130 [(2, .ref r536), (0, .ref r0), (1, .ref r1)] [] _ H1219 _
              have u1228 := TC_k p1225
              refine wp_of e30 c30_130 (rw_aload_n (pc' := 131) (v := .ref r536) rfl rfl rfl ?_)
              refine wp_of e30 c30_131 (rw_iconst (pc' := 132) rfl ?_)
              refine wp_of e30 c30_132 (xp_Z (pc' := 135) lf_1_203 w1223 g538 sh_35 (by decide) (by decide) ty_35_13 rfl rfl (by omega) (by omega) rfl (fun H1229 e1230 w1231 => ?_))
              have f1232 := f1227.put' e1230 g538 rfl
              have k1233 : H1229 r536 13 = 1 := wq_u_s e1230
              have _ec : xqc B n q = ((xN B n q)) := by
                unfold xqc
                first | rw [if_pos (by omega)] | rw [if_neg (by omega)]
              have k1234 : H1229 r536 6 = H r536 6 := ((wq_u_j e1230 rfl).trans (f1224 r536 6 _ g538 rfl))
              have k1235 : H1229 r536 7 = H r536 7 := ((wq_u_j e1230 rfl).trans (f1224 r536 7 _ g538 rfl))
              have k1236 : H1229 r536 8 = H r536 8 := ((wq_u_j e1230 rfl).trans (f1224 r536 8 _ g538 rfl))
              have k1237 : H1229 r536 9 = H r536 9 := ((wq_u_j e1230 rfl).trans (f1224 r536 9 _ g538 rfl))
              have k1238 : H1229 r536 10 = H r536 10 := ((wq_u_j e1230 rfl).trans (f1224 r536 10 _ g538 rfl))
              have k1239 : H1229 r536 11 = H r536 11 := ((wq_u_j e1230 rfl).trans (f1224 r536 11 _ g538 rfl))
              have k1240 : H1229 r536 12 = H r536 12 := ((wq_u_j e1230 rfl).trans (f1224 r536 12 _ g538 rfl))
              have k1241 : H1229 r536 14 = H r536 14 := ((wq_u_j e1230 rfl).trans (f1224 r536 14 _ g538 rfl))
              have _ew : xaw B n q = H1229 r536 13 := by
                unfold xaw
                first | (rw [if_pos (by omega)]; omega) | (rw [if_neg (by omega)]; omega)
              refine wp_of e30 c30_135 (rw_aload_n (pc' := 136) (v := .ref r1) rfl rfl rfl ?_)
              refine wp_of e30 c30_136 (rw_dup (pc' := 137) rfl rfl ?_)
              have k1242 : H1229 r1 10 = H r1 10 := ((wq_u_t e1230 g538 g1 rfl 10).trans (f1224 r1 10 _ g1 rfl))
              refine wp_of e30 c30_137 (xg_I (pc' := 140) lf_1_44 w1231 g1 sh_27 (by decide) (by decide) ty_27_10 rfl rfl (fun b1243 b1244 => ?_))
              refine wp_of e30 c30_140 (rw_iconst (pc' := 141) rfl ?_)
              refine wp_of e30 c30_141 (rw_iadd (pc' := 142) rfl ?_)
              refine wp_of e30 c30_142 (xp_I (pc' := 145) lf_1_44 w1231 g1 sh_27 (by decide) (by decide) ty_27_10 rfl rfl (by omega) (by omega) ⟨by omega, by omega⟩ rfl (fun H1245 e1246 w1247 => ?_))
              have f1248 := f1232.put' e1246 g1 rfl
              have k1249 : H1245 r1 10 = (H1229 r1 10) + 1 := wq_u_s e1246
              refine wp_of e30 c30_145 (rw_iconst (pc' := 146) rfl ?_)
              have k1250 : H1245 r0 3 = H r0 3 := ((wq_u_t e1246 g1 g0 rfl 3).trans ((wq_u_t e1230 g538 g0 rfl 3).trans (f1224 r0 3 _ g0 rfl)))
              have k1251 : H1245 r1 7 = H r1 7 := ((wq_u_j e1246 rfl).trans ((wq_u_t e1230 g538 g1 rfl 7).trans (f1224 r1 7 _ g1 rfl)))
              have k1252 : H1245 r1 8 = H r1 8 := ((wq_u_j e1246 rfl).trans ((wq_u_t e1230 g538 g1 rfl 8).trans (f1224 r1 8 _ g1 rfl)))
              have k1253 : H1245 r1 9 = H r1 9 := ((wq_u_j e1246 rfl).trans ((wq_u_t e1230 g538 g1 rfl 9).trans (f1224 r1 9 _ g1 rfl)))
              have k1254 : H1245 r1 11 = H r1 11 := ((wq_u_j e1246 rfl).trans ((wq_u_t e1230 g538 g1 rfl 11).trans (f1224 r1 11 _ g1 rfl)))
              have k1255 : H1245 r1 12 = H r1 12 := ((wq_u_j e1246 rfl).trans ((wq_u_t e1230 g538 g1 rfl 12).trans (f1224 r1 12 _ g1 rfl)))
              have k1256 : H1245 r1 13 = H r1 13 := ((wq_u_j e1246 rfl).trans ((wq_u_t e1230 g538 g1 rfl 13).trans (f1224 r1 13 _ g1 rfl)))
              have k1257 : H1245 r1 14 = H r1 14 := ((wq_u_j e1246 rfl).trans ((wq_u_t e1230 g538 g1 rfl 14).trans (f1224 r1 14 _ g1 rfl)))
              have k1258 : H1245 r1 15 = H r1 15 := ((wq_u_j e1246 rfl).trans ((wq_u_t e1230 g538 g1 rfl 15).trans (f1224 r1 15 _ g1 rfl)))
              have k1259 : H1245 r1 16 = H r1 16 := ((wq_u_j e1246 rfl).trans ((wq_u_t e1230 g538 g1 rfl 16).trans (f1224 r1 16 _ g1 rfl)))
              have k1260 : H1245 r536 6 = H1229 r536 6 := (wq_u_t e1246 g1 g538 rfl 6)
              have k1261 : H1245 r536 7 = H1229 r536 7 := (wq_u_t e1246 g1 g538 rfl 7)
              have k1262 : H1245 r536 8 = H1229 r536 8 := (wq_u_t e1246 g1 g538 rfl 8)
              have k1263 : H1245 r536 9 = H1229 r536 9 := (wq_u_t e1246 g1 g538 rfl 9)
              have k1264 : H1245 r536 10 = H1229 r536 10 := (wq_u_t e1246 g1 g538 rfl 10)
              have k1265 : H1245 r536 11 = H1229 r536 11 := (wq_u_t e1246 g1 g538 rfl 11)
              have k1266 : H1245 r536 12 = H1229 r536 12 := (wq_u_t e1246 g1 g538 rfl 12)
              have k1267 : H1245 r536 13 = H1229 r536 13 := (wq_u_t e1246 g1 g538 rfl 13)
              have k1268 : H1245 r536 14 = H1229 r536 14 := (wq_u_t e1246 g1 g538 rfl 14)
              have o1269 : (xcs B n q) = (0, q, (xN B n q)) := by
                unfold xcs xca xcb
                try rw [_ea]
                try rw [_eb]
                try rw [_ec]
                repeat first | rw [xs_0 (by omega)] | rw [xs_1 (by omega)] | rw [if_pos (by omega)] | rw [if_neg (by omega)]
                first | done | rfl | assumption | (exfalso; omega) | (refine Prod.ext ?_ (Prod.ext ?_ ?_) <;> (try dsimp only) <;> omega)
              have o1269a : ((xcs B n q)).1 = 0 := by rw [o1269]
              have o1269b : ((xcs B n q)).2.1 = q := by rw [o1269]
              have o1269c : ((xcs B n q)).2.2 = (xN B n q) := by rw [o1269]
              have _l := @xdper_v B n y d
              have _k := @xdper_k (H r1 10).toNat d B n y (by omega)
              rw [← p1] at _k
              rw [_ea, _eb] at _k
              have _f : H1245 r536 6 = xdper B n y d 1 (H r1 10).toNat ∧ H1245 r536 7 = xdper B n y d 2 (H r1 10).toNat ∧ H1245 r536 8 = xdper B n y d 3 (H r1 10).toNat ∧ H1245 r536 9 = xdper B n y d 4 (H r1 10).toNat ∧ H1245 r536 10 = xdper B n y d 5 (H r1 10).toNat ∧ H1245 r536 11 = xdper B n y d 6 (H r1 10).toNat ∧ H1245 r536 12 = xhs (xdper B n y d 7 (H r1 10).toNat) (xdper B n y d 8 (H r1 10).toNat) ∧ H1245 r536 13 = xdper B n y d 9 (H r1 10).toNat ∧ H1245 r536 14 = 0 := ⟨by omega, by omega, by omega, by omega, by omega, by omega, by rw [_k.2.2.2.2.2.2.1, _k.2.2.2.2.2.2.2.1]; omega, by omega, by omega⟩
              have h1270 : TC T H1245 tk B n (xN B n q) := (TC_fr w1231 gtk ((wfr.rf (l := [(27, 10)])).put' e1246 g1 rfl) rfl (TC_fr w1223 gtk ((wfr.rf (l := [(35, 13)])).put' e1230 g538 rfl) rfl p1225))
              have k1271 : H1245 r1 0 = H r1 0 := ((wq_u_j e1246 rfl).trans ((wq_u_t e1230 g538 g1 rfl 0).trans (f1224 r1 0 _ g1 rfl)))
              have q1272 : H1245 r1 0 = (r531 : Int) := k1271.trans q532
              have k1273 : H1245 r531 ((H r1 10).toNat) = H r531 ((H r1 10).toNat) := ((wq_u_t e1246 g1 g533 rfl ((H r1 10).toNat)).trans ((wq_u_t e1230 g538 g533 rfl ((H r1 10).toNat)).trans (f1224 r531 ((H r1 10).toNat) _ g533 rfl)))
              have q1274 : H1245 r531 ((H r1 10).toNat) = (r536 : Int) := k1273.trans q537
              have h1275 : ST T H1245 r1 (d 13) := (ST_fr w1231 g1 ((wfr.rf (l := [(27, 10)])).put' e1246 g1 rfl) rfl (ST_fr w1223 g1 ((wfr.rf (l := [(35, 13)])).put' e1230 g538 rfl) rfl (ST_fr hW g1 f1224 rfl h525)))
              have h1276 : SV T H1245 r1 (d 13) 24 := (SV_fr w1231 g1 ((wfr.rf (l := [(27, 10)])).put' e1246 g1 rfl) rfl (SV_fr w1223 g1 ((wfr.rf (l := [(35, 13)])).put' e1230 g538 rfl) rfl (SV_fr hW g1 f1224 rfl h526)))
              have h1277 : DA3 T H1245 r1 (d 0 5) (d 12) := (DA3_fr w1231 g1 ((wfr.rf (l := [(27, 10)])).put' e1246 g1 rfl) rfl (DA3_fr w1223 g1 ((wfr.rf (l := [(35, 13)])).put' e1230 g538 rfl) rfl (DA3_fr hW g1 f1224 rfl h527)))
              have h1278 : DA4 T H1245 r1 (d 0 6) (d 14) := (DA4_fr w1231 g1 ((wfr.rf (l := [(27, 10)])).put' e1246 g1 rfl) rfl (DA4_fr w1223 g1 ((wfr.rf (l := [(35, 13)])).put' e1230 g538 rfl) rfl (DA4_fr hW g1 f1224 rfl h528)))
              have h1279 : DA5 T H1245 r1 (d 0 6) (d 15) := (DA5_fr w1231 g1 ((wfr.rf (l := [(27, 10)])).put' e1246 g1 rfl) rfl (DA5_fr w1223 g1 ((wfr.rf (l := [(35, 13)])).put' e1230 g538 rfl) rfl (DA5_fr hW g1 f1224 rfl h529)))
              have h1280 : DA6 T H1245 r1 (d 0 7) (d 16) := (DA6_fr w1231 g1 ((wfr.rf (l := [(27, 10)])).put' e1246 g1 rfl) rfl (DA6_fr w1223 g1 ((wfr.rf (l := [(35, 13)])).put' e1230 g538 rfl) rfl (DA6_fr hW g1 f1224 rfl h530)))
              exact wp_zreturn e30 c30_146 rfl (by omega) ⟨rfl, w1247, f1248, 1, rfl, ⟨by omega, by omega⟩, (Or.inl ⟨by omega, by omega, by omega, by omega, by rw [o1269]; exact h1270, DC_mk ⟨by omega, by omega, by omega, by omega, by omega, by omega, by omega, by omega, by omega, by omega, by omega, by omega, by omega, by omega, by omega, by omega⟩ (DQ_per g538 (DQ_oth hW g1 f1248 rfl hDD_r1 q1272 q1274 (by omega) (by omega) (fun a ha ga => ((wq_u_tf e1246 g1 ga (by decide)).trans ((wq_u_nf e1230 ha).trans (f1224.fn ga rfl)))) hDC_r1.2.1) (by omega) q1272 q1274 (k := (H r1 10).toNat) (by omega) _f) h1275 h1276 h1277 h1278 h1279 h1280 ⟨rfl, rfl, rfl, rfl, rfl⟩ ⟨by omega, by omega, by omega⟩⟩)⟩
          · show wp _ _ 30 120 [(2, .ref r536), (0, .ref r0), (1, .ref r1)] [vI z1208] _ H _
            refine wp_of e30 c30_120 (rw_if_eq (p1 := 135) (p2 := 123) (by decide) rfl ⟨by omega, by omega⟩ (fun c1281 => ?_) (fun c1281 => ?_))
            · have _ec : xqc B n q = q := by
                unfold xqc
                first | rw [if_pos (by omega)] | rw [if_neg (by omega)]
              have _ew : xaw B n q = H r536 13 := by
                unfold xaw
                first | (rw [if_pos (by omega)]; omega) | (rw [if_neg (by omega)]; omega)
              refine wp_of e30 c30_135 (rw_aload_n (pc' := 136) (v := .ref r1) rfl rfl rfl ?_)
              refine wp_of e30 c30_136 (rw_dup (pc' := 137) rfl rfl ?_)
              refine wp_of e30 c30_137 (xg_I (pc' := 140) lf_1_44 hW g1 sh_27 (by decide) (by decide) ty_27_10 rfl rfl (fun b1282 b1283 => ?_))
              refine wp_of e30 c30_140 (rw_iconst (pc' := 141) rfl ?_)
              refine wp_of e30 c30_141 (rw_iadd (pc' := 142) rfl ?_)
              refine wp_of e30 c30_142 (xp_I (pc' := 145) lf_1_44 hW g1 sh_27 (by decide) (by decide) ty_27_10 rfl rfl (by omega) (by omega) ⟨by omega, by omega⟩ rfl (fun H1284 e1285 w1286 => ?_))
              have f1287 := f0.put' e1285 g1 rfl
              have k1288 : H1284 r1 10 = (H r1 10) + 1 := wq_u_s e1285
              refine wp_of e30 c30_145 (rw_iconst (pc' := 146) rfl ?_)
              have k1289 : H1284 r0 3 = H r0 3 := (wq_u_t e1285 g1 g0 rfl 3)
              have k1290 : H1284 r1 7 = H r1 7 := (wq_u_j e1285 rfl)
              have k1291 : H1284 r1 8 = H r1 8 := (wq_u_j e1285 rfl)
              have k1292 : H1284 r1 9 = H r1 9 := (wq_u_j e1285 rfl)
              have k1293 : H1284 r1 11 = H r1 11 := (wq_u_j e1285 rfl)
              have k1294 : H1284 r1 12 = H r1 12 := (wq_u_j e1285 rfl)
              have k1295 : H1284 r1 13 = H r1 13 := (wq_u_j e1285 rfl)
              have k1296 : H1284 r1 14 = H r1 14 := (wq_u_j e1285 rfl)
              have k1297 : H1284 r1 15 = H r1 15 := (wq_u_j e1285 rfl)
              have k1298 : H1284 r1 16 = H r1 16 := (wq_u_j e1285 rfl)
              have k1299 : H1284 r536 6 = H r536 6 := (wq_u_t e1285 g1 g538 rfl 6)
              have k1300 : H1284 r536 7 = H r536 7 := (wq_u_t e1285 g1 g538 rfl 7)
              have k1301 : H1284 r536 8 = H r536 8 := (wq_u_t e1285 g1 g538 rfl 8)
              have k1302 : H1284 r536 9 = H r536 9 := (wq_u_t e1285 g1 g538 rfl 9)
              have k1303 : H1284 r536 10 = H r536 10 := (wq_u_t e1285 g1 g538 rfl 10)
              have k1304 : H1284 r536 11 = H r536 11 := (wq_u_t e1285 g1 g538 rfl 11)
              have k1305 : H1284 r536 12 = H r536 12 := (wq_u_t e1285 g1 g538 rfl 12)
              have k1306 : H1284 r536 13 = H r536 13 := (wq_u_t e1285 g1 g538 rfl 13)
              have k1307 : H1284 r536 14 = H r536 14 := (wq_u_t e1285 g1 g538 rfl 14)
              have o1308 : (xcs B n q) = (0, q, q) := by
                unfold xcs xca xcb
                try rw [_ea]
                try rw [_eb]
                try rw [_ec]
                repeat first | rw [xs_0 (by omega)] | rw [xs_1 (by omega)] | rw [if_pos (by omega)] | rw [if_neg (by omega)]
                first | done | rfl | assumption | (exfalso; omega) | (refine Prod.ext ?_ (Prod.ext ?_ ?_) <;> (try dsimp only) <;> omega)
              have o1308a : ((xcs B n q)).1 = 0 := by rw [o1308]
              have o1308b : ((xcs B n q)).2.1 = q := by rw [o1308]
              have o1308c : ((xcs B n q)).2.2 = q := by rw [o1308]
              have _l := @xdper_v B n y d
              have _k := @xdper_k (H r1 10).toNat d B n y (by omega)
              rw [← p1] at _k
              rw [_ea, _eb] at _k
              have _f : H1284 r536 6 = xdper B n y d 1 (H r1 10).toNat ∧ H1284 r536 7 = xdper B n y d 2 (H r1 10).toNat ∧ H1284 r536 8 = xdper B n y d 3 (H r1 10).toNat ∧ H1284 r536 9 = xdper B n y d 4 (H r1 10).toNat ∧ H1284 r536 10 = xdper B n y d 5 (H r1 10).toNat ∧ H1284 r536 11 = xdper B n y d 6 (H r1 10).toNat ∧ H1284 r536 12 = xhs (xdper B n y d 7 (H r1 10).toNat) (xdper B n y d 8 (H r1 10).toNat) ∧ H1284 r536 13 = xdper B n y d 9 (H r1 10).toNat ∧ H1284 r536 14 = 0 := ⟨by omega, by omega, by omega, by omega, by omega, by omega, by rw [_k.2.2.2.2.2.2.1, _k.2.2.2.2.2.2.2.1]; omega, by omega, by omega⟩
              have h1309 : TC T H1284 tk B n q := (TC_fr hW gtk ((wfr.rf (l := [(27, 10)])).put' e1285 g1 rfl) rfl hTC_tk)
              have k1310 : H1284 r1 0 = H r1 0 := (wq_u_j e1285 rfl)
              have q1311 : H1284 r1 0 = (r531 : Int) := k1310.trans q532
              have k1312 : H1284 r531 ((H r1 10).toNat) = H r531 ((H r1 10).toNat) := (wq_u_t e1285 g1 g533 rfl ((H r1 10).toNat))
              have q1313 : H1284 r531 ((H r1 10).toNat) = (r536 : Int) := k1312.trans q537
              have h1314 : ST T H1284 r1 (d 13) := (ST_fr hW g1 ((wfr.rf (l := [(27, 10)])).put' e1285 g1 rfl) rfl h525)
              have h1315 : SV T H1284 r1 (d 13) 24 := (SV_fr hW g1 ((wfr.rf (l := [(27, 10)])).put' e1285 g1 rfl) rfl h526)
              have h1316 : DA3 T H1284 r1 (d 0 5) (d 12) := (DA3_fr hW g1 ((wfr.rf (l := [(27, 10)])).put' e1285 g1 rfl) rfl h527)
              have h1317 : DA4 T H1284 r1 (d 0 6) (d 14) := (DA4_fr hW g1 ((wfr.rf (l := [(27, 10)])).put' e1285 g1 rfl) rfl h528)
              have h1318 : DA5 T H1284 r1 (d 0 6) (d 15) := (DA5_fr hW g1 ((wfr.rf (l := [(27, 10)])).put' e1285 g1 rfl) rfl h529)
              have h1319 : DA6 T H1284 r1 (d 0 7) (d 16) := (DA6_fr hW g1 ((wfr.rf (l := [(27, 10)])).put' e1285 g1 rfl) rfl h530)
              exact wp_zreturn e30 c30_146 rfl (by omega) ⟨rfl, w1286, f1287, 1, rfl, ⟨by omega, by omega⟩, (Or.inl ⟨by omega, by omega, by omega, by omega, by rw [o1308]; exact h1309, DC_mk ⟨by omega, by omega, by omega, by omega, by omega, by omega, by omega, by omega, by omega, by omega, by omega, by omega, by omega, by omega, by omega, by omega⟩ (DQ_per g538 (DQ_oth hW g1 f1287 rfl hDD_r1 q1311 q1313 (by omega) (by omega) (fun a ha ga => (wq_u_tf e1285 g1 ga (by decide))) hDC_r1.2.1) (by omega) q1311 q1313 (k := (H r1 10).toNat) (by omega) _f) h1314 h1315 h1316 h1317 h1318 h1319 ⟨rfl, rfl, rfl, rfl, rfl⟩ ⟨by omega, by omega, by omega⟩⟩)⟩
            · exfalso
              omega
        · exfalso
          omega
    · exfalso
      omega
/-! StrikeAwake$Parish.clear()V  -/
abbrev uq_14 (r0 : Nat) (T : wq_T) (H : wq_H) : Option Value → wq_T → wq_H → Prop := fun r T' H' => T = T' ∧ WT T H' ∧ wfr [(27, 7), (27, 8), (27, 9), (27, 10), (27, 11), (27, 12), (27, 13), (27, 14), (27, 15), (27, 16), (27, 17), (27, 18), (29, 999)] T H H' ∧ none = r ∧ ((DC T H' r0 xD0))
set_option maxHeartbeats 4000000 in
theorem u_14 {kt : Nat → Option mc_E} {T : wq_T} {H : wq_H} {r0 : Nat} (hW : WT T H) (g0 : T.2.2.2 r0 = some 27) : wpc kt 1 14 [.ref r0] T H (uq_14 r0 T H) := by
  refine wp_enter e14 (Nat.le_of_ble_eq_true rfl) rfl ?_
  have f0 : wfr [(27, 7), (27, 8), (27, 9), (27, 10), (27, 11), (27, 12), (27, 13), (27, 14), (27, 15), (27, 16), (27, 17), (27, 18), (29, 999)] T H H := wfr.rf
  show wp _ _ 14 0 [(0, .ref r0)] [] _ H _
  refine wp_of e14 c14_0 (rw_aload_n (pc' := 1) (v := .ref r0) rfl rfl rfl ?_)
  refine wp_of e14 c14_1 (rw_iconst (pc' := 2) rfl ?_)
  refine wp_of e14 c14_2 (xp_I (pc' := 5) lf_7_41 hW g0 sh_27 (by decide) (by decide) ty_27_7 rfl rfl (by omega) (by omega) ⟨by omega, by omega⟩ rfl (fun H134 e135 w136 => ?_))
  have f137 := f0.put' e135 g0 rfl
  have k138 : H134 r0 7 = 0 := wq_u_s e135
  refine wp_of e14 c14_5 (rw_aload_n (pc' := 6) (v := .ref r0) rfl rfl rfl ?_)
  refine wp_of e14 c14_6 (rw_iconst (pc' := 7) rfl ?_)
  refine wp_of e14 c14_7 (xp_I (pc' := 10) lf_7_44 w136 g0 sh_27 (by decide) (by decide) ty_27_8 rfl rfl (by omega) (by omega) ⟨by omega, by omega⟩ rfl (fun H139 e140 w141 => ?_))
  have f142 := f137.put' e140 g0 rfl
  have k143 : H139 r0 8 = 0 := wq_u_s e140
  refine wp_of e14 c14_10 (rw_aload_n (pc' := 11) (v := .ref r0) rfl rfl rfl ?_)
  refine wp_of e14 c14_11 (rw_iconst (pc' := 12) rfl ?_)
  refine wp_of e14 c14_12 (xp_I (pc' := 15) lf_7_47 w141 g0 sh_27 (by decide) (by decide) ty_27_9 rfl rfl (by omega) (by omega) ⟨by omega, by omega⟩ rfl (fun H144 e145 w146 => ?_))
  have f147 := f142.put' e145 g0 rfl
  have k148 : H144 r0 9 = 0 := wq_u_s e145
  refine wp_of e14 c14_15 (rw_aload_n (pc' := 16) (v := .ref r0) rfl rfl rfl ?_)
  refine wp_of e14 c14_16 (rw_iconst (pc' := 17) rfl ?_)
  refine wp_of e14 c14_17 (xp_I (pc' := 20) lf_7_50 w146 g0 sh_27 (by decide) (by decide) ty_27_10 rfl rfl (by omega) (by omega) ⟨by omega, by omega⟩ rfl (fun H149 e150 w151 => ?_))
  have f152 := f147.put' e150 g0 rfl
  have k153 : H149 r0 10 = 0 := wq_u_s e150
  refine wp_of e14 c14_20 (rw_aload_n (pc' := 21) (v := .ref r0) rfl rfl rfl ?_)
  refine wp_of e14 c14_21 (rw_iconst (pc' := 22) rfl ?_)
  refine wp_of e14 c14_22 (xp_I (pc' := 25) lf_7_53 w151 g0 sh_27 (by decide) (by decide) ty_27_11 rfl rfl (by omega) (by omega) ⟨by omega, by omega⟩ rfl (fun H154 e155 w156 => ?_))
  have f157 := f152.put' e155 g0 rfl
  have k158 : H154 r0 11 = 0 := wq_u_s e155
  refine wp_of e14 c14_25 (rw_aload_n (pc' := 26) (v := .ref r0) rfl rfl rfl ?_)
  refine wp_of e14 c14_26 (rw_iconst (pc' := 27) rfl ?_)
  refine wp_of e14 c14_27 (xp_I (pc' := 30) lf_7_56 w156 g0 sh_27 (by decide) (by decide) ty_27_12 rfl rfl (by omega) (by omega) ⟨by omega, by omega⟩ rfl (fun H159 e160 w161 => ?_))
  have f162 := f157.put' e160 g0 rfl
  have k163 : H159 r0 12 = 0 := wq_u_s e160
  refine wp_of e14 c14_30 (rw_aload_n (pc' := 31) (v := .ref r0) rfl rfl rfl ?_)
  refine wp_of e14 c14_31 (rw_iconst (pc' := 32) rfl ?_)
  refine wp_of e14 c14_32 (xp_I (pc' := 35) lf_7_59 w161 g0 sh_27 (by decide) (by decide) ty_27_13 rfl rfl (by omega) (by omega) ⟨by omega, by omega⟩ rfl (fun H164 e165 w166 => ?_))
  have f167 := f162.put' e165 g0 rfl
  have k168 : H164 r0 13 = 0 := wq_u_s e165
  refine wp_of e14 c14_35 (rw_aload_n (pc' := 36) (v := .ref r0) rfl rfl rfl ?_)
  refine wp_of e14 c14_36 (rw_iconst (pc' := 37) rfl ?_)
  refine wp_of e14 c14_37 (xp_I (pc' := 40) lf_7_62 w166 g0 sh_27 (by decide) (by decide) ty_27_14 rfl rfl (by omega) (by omega) ⟨by omega, by omega⟩ rfl (fun H169 e170 w171 => ?_))
  have f172 := f167.put' e170 g0 rfl
  have k173 : H169 r0 14 = 0 := wq_u_s e170
  refine wp_of e14 c14_40 (rw_aload_n (pc' := 41) (v := .ref r0) rfl rfl rfl ?_)
  refine wp_of e14 c14_41 (rw_bipush (pc' := 43) (z := -2) rfl (by decide) ?_)
  refine wp_of e14 c14_43 (xp_I (pc' := 46) lf_7_37 w171 g0 sh_27 (by decide) (by decide) ty_27_15 rfl rfl (by omega) (by omega) ⟨by omega, by omega⟩ rfl (fun H174 e175 w176 => ?_))
  have f177 := f172.put' e175 g0 rfl
  have k178 : H174 r0 15 = -2 := wq_u_s e175
  refine wp_of e14 c14_46 (rw_aload_n (pc' := 47) (v := .ref r0) rfl rfl rfl ?_)
  refine wp_of e14 c14_47 (rw_iconst (pc' := 48) rfl ?_)
  refine wp_of e14 c14_48 (xp_I (pc' := 51) lf_7_65 w176 g0 sh_27 (by decide) (by decide) ty_27_16 rfl rfl (by omega) (by omega) ⟨by omega, by omega⟩ rfl (fun H179 e180 w181 => ?_))
  have f182 := f177.put' e180 g0 rfl
  have k183 : H179 r0 16 = 0 := wq_u_s e180
  refine wp_of e14 c14_51 (rw_aload_n (pc' := 52) (v := .ref r0) rfl rfl rfl ?_)
  refine wp_of e14 c14_52 (rw_iconst (pc' := 53) rfl ?_)
  refine wp_of e14 c14_53 (xp_I (pc' := 56) lf_7_68 w181 g0 sh_27 (by decide) (by decide) ty_27_17 rfl rfl (by omega) (by omega) ⟨by omega, by omega⟩ rfl (fun H184 e185 w186 => ?_))
  have f187 := f182.put' e185 g0 rfl
  have k188 : H184 r0 17 = 0 := wq_u_s e185
  refine wp_of e14 c14_56 (rw_aload_n (pc' := 57) (v := .ref r0) rfl rfl rfl ?_)
  refine wp_of e14 c14_57 (rw_lconst (pc' := 58) (z := 0) rfl rfl ?_)
  refine wp_of e14 c14_58 (xp_L (pc' := 61) lf_7_71 w186 g0 sh_27 (by decide) (by decide) ty_27_18 rfl rfl (by omega) (by omega) ⟨by omega, by omega⟩ rfl (fun H189 e190 w191 => ?_))
  have f192 := f187.put' e190 g0 rfl
  have k193 : H189 r0 18 = 0 := wq_u_s e190
  refine wp_of e14 c14_61 (rw_iconst (pc' := 62) rfl ?_)
  refine wp_of e14 c14_62 (rw_istore_n (pc' := 63) (z := 0) (L' := [(1, vI 0), (0, .ref r0)]) rfl rfl rfl ?_)
  have lp258 : ∀ (n259 : Nat) (v261 : Int) (H262 : wq_H), WT T H262 → wfr [(29, 999)] T H189 H262 → (0 ≤ v261 ∧ v261 ≤ 24) → SZ T H262 r0 v261 → (24 - v261).toNat = n259 → wp kt 0 14 63 [(1, vI v261), (0, .ref r0)] [] T H262 (uq_14 r0 T H) := by
    intro n259
    induction n259 using Nat.strongRecOn with
    | _ n259 ih260 =>
      intro v261 H262 w263 f264 b265 h267 m266
      have f268 := f192.tr f264 rfl
      refine wp_of e14 c14_63 (rw_iload_n (pc' := 64) (z := v261) rfl rfl ?_)
      refine wp_of e14 c14_64 (rw_bipush (pc' := 66) (z := 24) rfl (by decide) ?_)
      refine wp_of e14 c14_66 (rw_icmp_ge (p1 := 83) (p2 := 69) (by decide) rfl ⟨by omega, by omega⟩ ⟨by omega, by omega⟩ (fun c269 => ?_) (fun c269 => ?_))
      · have k270 : H262 r0 7 = H134 r0 7 := ((f264 r0 7 _ g0 rfl).trans ((wq_u_j e190 rfl).trans ((wq_u_j e185 rfl).trans ((wq_u_j e180 rfl).trans ((wq_u_j e175 rfl).trans ((wq_u_j e170 rfl).trans ((wq_u_j e165 rfl).trans ((wq_u_j e160 rfl).trans ((wq_u_j e155 rfl).trans ((wq_u_j e150 rfl).trans ((wq_u_j e145 rfl).trans (wq_u_j e140 rfl))))))))))))
        have k271 : H262 r0 8 = H139 r0 8 := ((f264 r0 8 _ g0 rfl).trans ((wq_u_j e190 rfl).trans ((wq_u_j e185 rfl).trans ((wq_u_j e180 rfl).trans ((wq_u_j e175 rfl).trans ((wq_u_j e170 rfl).trans ((wq_u_j e165 rfl).trans ((wq_u_j e160 rfl).trans ((wq_u_j e155 rfl).trans ((wq_u_j e150 rfl).trans (wq_u_j e145 rfl)))))))))))
        have k272 : H262 r0 9 = H144 r0 9 := ((f264 r0 9 _ g0 rfl).trans ((wq_u_j e190 rfl).trans ((wq_u_j e185 rfl).trans ((wq_u_j e180 rfl).trans ((wq_u_j e175 rfl).trans ((wq_u_j e170 rfl).trans ((wq_u_j e165 rfl).trans ((wq_u_j e160 rfl).trans ((wq_u_j e155 rfl).trans (wq_u_j e150 rfl))))))))))
        have k273 : H262 r0 10 = H149 r0 10 := ((f264 r0 10 _ g0 rfl).trans ((wq_u_j e190 rfl).trans ((wq_u_j e185 rfl).trans ((wq_u_j e180 rfl).trans ((wq_u_j e175 rfl).trans ((wq_u_j e170 rfl).trans ((wq_u_j e165 rfl).trans ((wq_u_j e160 rfl).trans (wq_u_j e155 rfl)))))))))
        have k274 : H262 r0 11 = H154 r0 11 := ((f264 r0 11 _ g0 rfl).trans ((wq_u_j e190 rfl).trans ((wq_u_j e185 rfl).trans ((wq_u_j e180 rfl).trans ((wq_u_j e175 rfl).trans ((wq_u_j e170 rfl).trans ((wq_u_j e165 rfl).trans (wq_u_j e160 rfl))))))))
        have k275 : H262 r0 12 = H159 r0 12 := ((f264 r0 12 _ g0 rfl).trans ((wq_u_j e190 rfl).trans ((wq_u_j e185 rfl).trans ((wq_u_j e180 rfl).trans ((wq_u_j e175 rfl).trans ((wq_u_j e170 rfl).trans (wq_u_j e165 rfl)))))))
        have k276 : H262 r0 13 = H164 r0 13 := ((f264 r0 13 _ g0 rfl).trans ((wq_u_j e190 rfl).trans ((wq_u_j e185 rfl).trans ((wq_u_j e180 rfl).trans ((wq_u_j e175 rfl).trans (wq_u_j e170 rfl))))))
        have k277 : H262 r0 14 = H169 r0 14 := ((f264 r0 14 _ g0 rfl).trans ((wq_u_j e190 rfl).trans ((wq_u_j e185 rfl).trans ((wq_u_j e180 rfl).trans (wq_u_j e175 rfl)))))
        have k278 : H262 r0 15 = H174 r0 15 := ((f264 r0 15 _ g0 rfl).trans ((wq_u_j e190 rfl).trans ((wq_u_j e185 rfl).trans (wq_u_j e180 rfl))))
        have k279 : H262 r0 16 = H179 r0 16 := ((f264 r0 16 _ g0 rfl).trans ((wq_u_j e190 rfl).trans (wq_u_j e185 rfl)))
        have _0 : xD0 0 0 = 0 ∧ xD0 0 1 = 0 ∧ xD0 0 2 = 0 ∧ xD0 0 3 = 0 ∧ xD0 0 4 = 0 ∧ xD0 0 5 = 0 ∧ xD0 0 6 = 0 ∧ xD0 0 7 = 0 ∧ xD0 0 8 = -1 ∧ xsx (xD0 0 8) = -2 ∧ xcn (xD0 13) 24 = 0 := ⟨rfl, rfl, rfl, rfl, rfl, rfl, rfl, rfl, rfl, rfl, rfl⟩
        exact wp_return e14 c14_83 rfl ⟨rfl, w263, f268, rfl, (DC_mk ⟨by omega, by omega, by omega, by omega, by omega, by omega, by omega, by omega, by omega, by omega, by omega, by omega, by omega, by omega, by omega, by omega⟩ (DQ_0 (by omega) (by omega)) (ST_z h267 (by omega) (fun k _ => rfl)) (SV_z w263 g0 (fun k => Int.le_refl _)) (DA_0 (n := 19) w263 g0 rfl (by decide) rfl (Int.le_refl _)) (DA_0 (n := 19) w263 g0 rfl (by decide) rfl (Int.le_refl _)) (DA_0 (n := 19) w263 g0 rfl (by decide) rfl (Int.le_refl _)) (DA_0 (n := 19) w263 g0 rfl (by decide) rfl (Int.le_refl _)) ⟨rfl, rfl, rfl, rfl, rfl⟩ ⟨rfl, rfl, rfl⟩)⟩
      · refine wp_of e14 c14_69 (rw_aload_n (pc' := 70) (v := .ref r0) rfl rfl rfl ?_)
        refine wp_of e14 c14_70 (xg_R (pc' := 73) lf_7_17 w263 g0 sh_27 (by decide) (by decide) ty_27_1 rfl rfl (fun r280 q281 g282 => ?_))
        refine wp_of e14 c14_73 (rw_iload_n (pc' := 74) (z := v261) rfl rfl ?_)
        refine wp_of e14 c14_74 (rw_bipush (pc' := 76) (z := -2) rfl (by decide) ?_)
        refine wp_of e14 c14_76 (xs_I (pc' := 77) w263 g282 (by decide) sh_29 (by decide) (ty_29 _) (by omega) (by omega) ⟨by omega, by omega⟩ (by omega) (by omega) rfl (fun H283 e284 w285 => ?_))
        have f286 := f268.put' e284 g282 rfl
        have f287 := f264.put' e284 g282 rfl
        have h288 : SZ T H283 r0 (v261 + 1) := SZ_put h267 q281 g0 g282 e284 (by omega) rfl
        refine wp_of e14 c14_77 (rw_iinc (pc' := 80) (z := v261) (L' := [(1, vI (v261 + 1)), (0, .ref r0)]) rfl rfl rfl rfl ?_)
        refine wp_of e14 c14_80 (rw_goto (p1 := 63) (by decide) ?_)
        exact wp_lc (ks := [1, 0]) (wl_c rfl (wl_c rfl wl_n)) rfl (by decide) (ih260 _ (by omega) (v261 + 1) H283 w285 f287 ⟨by omega, by omega⟩ h288 rfl)
  have h289 : SZ T H189 r0 0 := SZ_0 w191 g0
  exact wp_lc (ks := [1, 0]) (wl_c rfl (wl_c rfl wl_n)) rfl (by decide) (lp258 _ 0 H189 w191 wfr.rf ⟨by omega, by omega⟩ h289 rfl)
