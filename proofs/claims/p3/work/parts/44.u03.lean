/-! what methods do (own work, written by wip/gen3/sx3.py) -/
/-! StrikeAwake$Reader.readsCustoms(LStrikeAwake$Parish;)Z  -/
abbrev uq_30 (r0 : Nat) (r1 : Nat) (tk : Nat) (rb : Nat) (B : Nat → Int) (n : Int) (q : Int) (d : xD) (y : Int) (T : wq_T) (H : wq_H) : Option Value → wq_T → wq_H → Prop := fun r T' H' => T = T' ∧ WT T H' ∧ wfr [(27, 10), (35, 11), (35, 12), (35, 13), (3, 1), (3, 2), (3, 3), (3, 4), (4, 2), (4, 3), (4, 4), (4, 5), (4, 6)] T H H' ∧ ∃ z : Int, some (vI z) = r ∧ (0 ≤ z ∧ z ≤ 1) ∧ (((z = 1) ∧ ((xcs B n q).1 = 0) ∧ (q ≤ (xcs B n q).2.2) ∧ TC T H' tk B n (xcs B n q).2.2 ∧ DC T H' r1 (xdper B n y d)) ∨ ((z = 0) ∧ ((xcs B n q).1 ≠ 0) ∧ ((xcs B n q).2.2 = (xcs B n q).2.1) ∧ (H' r0 3 = (xcs B n q).1) ∧ (H' r0 4 = (xcs B n q).2.1)))
set_option maxHeartbeats 4000000 in
theorem u_30 {kt : Nat → Option mc_E} {T : wq_T} {H : wq_H} {r0 : Nat} {r1 : Nat} {tk : Nat} {rb : Nat} {B : Nat → Int} {n : Int} {q : Int} {d : xD} {y : Int} (hW : WT T H) (g0 : T.2.2.2 r0 = some 3) (g1 : T.2.2.2 r1 = some 27) (qtk : H r0 0 = (tk : Int)) (gtk : T.2.2.2 tk = some 4) (qrb : H tk 0 = (rb : Int)) (grb : T.2.2.2 rb = some 2) (p0 : d 0 3 ≤ 5) (p1 : q = (xN B n (xN B n (xN B n (xN B n (xN B n (xN B n (xN B n (xN B n (xN B n y)))))))))) (hTC_tk : TC T H tk B n q) (hDC_r1 : DC T H r1 d) (hDD_r1 : DD T H r1 ) (hPK_r1 : PK T H r1 B n y d) : wpc kt 4 30 [.ref r0, .ref r1] T H (uq_30 r0 r1 tk rb B n q d y T H) := by
  refine wp_enter e30 (Nat.le_of_ble_eq_true rfl) rfl ?_
  have f0 : wfr [(27, 10), (35, 11), (35, 12), (35, 13), (3, 1), (3, 2), (3, 3), (3, 4), (4, 2), (4, 3), (4, 4), (4, 5), (4, 6)] T H H := wfr.rf
  show wp _ _ 30 0 [(0, .ref r0), (1, .ref r1)] [] _ H _
  have u235632 := TC_k hTC_tk
  have u235633 := DC_k hDC_r1
  have h235634 : ST T H r1 (d 13) := hDC_r1.2.2.1
  have h235635 : SV T H r1 (d 13) 24 := hDC_r1.2.2.2.1
  have h235636 : DA3 T H r1 (d 0 5) (d 12) := hDC_r1.2.2.2.2.1
  have h235637 : DA4 T H r1 (d 0 6) (d 14) := hDC_r1.2.2.2.2.2.1
  have h235638 : DA5 T H r1 (d 0 6) (d 15) := hDC_r1.2.2.2.2.2.2.1
  have h235639 : DA6 T H r1 (d 0 7) (d 16) := hDC_r1.2.2.2.2.2.2.2
  have _z : xhs 0 0 = 0 := by decide
  have _l0 := p1
  refine wp_of e30 c30_0 (rw_aload_n (pc' := 1) (v := .ref r1) rfl rfl rfl ?_)
  refine wp_of e30 c30_1 (xg_R (pc' := 4) lf_1_143 hW g1 sh_27 (by decide) (by decide) ty_27_0 rfl rfl (fun r235640 q235641 g235642 => ?_))
  refine wp_of e30 c30_4 (rw_aload_n (pc' := 5) (v := .ref r1) rfl rfl rfl ?_)
  refine wp_of e30 c30_5 (xg_I (pc' := 8) lf_1_44 hW g1 sh_27 (by decide) (by decide) ty_27_10 rfl rfl (fun b235643 b235644 => ?_))
  refine wp_of e30 c30_8 (xa_R (pc' := 9) (by decide) hW g235642 sh_28 (by decide) (ty_28 _) (by omega) (by omega) rfl (fun r235645 q235646 g235647 => ?_))
  refine wp_of e30 c30_9 (rw_astore_n (pc' := 10) (v := .ref r235645) (L' := [(2, .ref r235645), (0, .ref r0), (1, .ref r1)]) rfl rfl rfl rfl ?_)
  have _p := PK_k hPK_r1 q235641 q235646 (by omega)
  refine wp_of e30 c30_10 (rw_aload_n (pc' := 11) (v := .ref r0) rfl rfl rfl ?_)
  refine wp_of e30 c30_11 (xg_K (pc' := 14) lf_1_12 hW g0 sh_3 (by decide) (by decide) rfl qtk rfl ?_)
  refine wp_of e30 c30_14 (rw_gs (pc' := 17) (k := 24) rfl rfl rfl rfl ?_)
  have k235648 : H 24 0 = ((40 : Nat) : Int) := (hW.2 24 _ (hW.1.2.2 8 (by decide))).2.2 0 (by decide) |> fun z => by have z1 : (40 : Int) ≤ H 24 0 ∧ H 24 0 ≤ 40 := z; omega
  refine wp_of e30 c30_17 (rw_getR (pc' := 20) (n := 2) (b := 40) (e := _) (lf_1_181).choose_spec.1 (lf_1_181).choose_spec.2.1 (hW.sh (hW.1.2.2 8 (by decide)) rfl) (by decide) rfl k235648 rfl ?_)
  refine wp_of e30 c30_20 (xc_V (pc' := 23) (r := tk) (as := [.ref 40]) (st := []) (lm_1_185) rfl rfl (Nat.le_of_ble_eq_true rfl) hW gtk sh_4 (by decide) rfl (by decide) (u_19_t (B := B) (n := n) (q := q) (kk := 8423732) hW gtk rfl (by decide +kernel) hTC_tk) (fun R235649 T235650 H235651 p235652 => ?_))
  obtain ⟨e235653, e235655, z235656, e235654, b235657, p235658⟩ := p235652
  subst e235653
  subst e235654
  subst e235655
  rcases p235658 with ⟨a235659, a235660⟩ | ⟨a235661, a235662⟩
  · show wp _ _ 30 23 [(2, .ref r235645), (0, .ref r0), (1, .ref r1)] [vI z235656] _ H _
    refine wp_of e30 c30_23 (rw_if_eq (p1 := 53) (p2 := 26) (by decide) rfl ⟨by omega, by omega⟩ (fun c235663 => ?_) (fun c235663 => ?_))
    · exfalso
      omega
    · refine wp_of e30 c30_26 (rw_aload_n (pc' := 27) (v := .ref r0) rfl rfl rfl ?_)
      refine wp_of e30 c30_27 (xg_K (pc' := 30) lf_1_12 hW g0 sh_3 (by decide) (by decide) rfl qtk rfl ?_)
      have h235664 : TP T H rb B := TC_tp hTC_tk qrb
      refine wp_of e30 c30_30 (xc_V (pc' := 33) (r := tk) (as := []) (st := []) (lm_1_74) rfl rfl (Nat.le_of_ble_eq_true rfl) hW gtk sh_4 (by decide) rfl (by decide) (u_16 (B := B) (n := n) (a := (xE B n q)) (q := (xN B n q)) hW gtk qrb grb (by omega) (by omega) (by omega) (rfl) h235664) (fun R235665 T235666 H235667 p235668 => ?_))
      obtain ⟨e235669, w235671, f235672, e235670, p235673⟩ := p235668
      subst e235669
      subst e235670
      have f235675 := f0.tr f235672 rfl
      show wp _ _ 30 33 [(2, .ref r235645), (0, .ref r0), (1, .ref r1)] [] _ H235667 _
      have u235676 := TC_k p235673
      refine wp_of e30 c30_33 (rw_aload_n (pc' := 34) (v := .ref r235645) rfl rfl rfl ?_)
      refine wp_of e30 c30_34 (rw_aload_n (pc' := 35) (v := .ref r0) rfl rfl rfl ?_)
      refine wp_of e30 c30_35 (rw_iconst (pc' := 36) rfl ?_)
      refine wp_of e30 c30_36 (rw_bipush (pc' := 38) (z := 23) rfl (by decide) ?_)
      have k235677 : H235667 r0 0 = H r0 0 := (f235672 r0 0 _ g0 rfl)
      have q235678 : H235667 r0 0 = (tk : Int) := k235677.trans qtk
      have k235679 : H235667 tk 0 = H tk 0 := (f235672 tk 0 _ gtk rfl)
      have q235680 : H235667 tk 0 = (rb : Int) := k235679.trans qrb
      refine wp_of e30 c30_38 (xc_V (pc' := 41) (r := r0) (as := [vI 0, vI 23]) (st := [.ref r235645]) (lm_1_119) rfl rfl (Nat.le_of_ble_eq_true rfl) w235671 g0 sh_3 (by decide) rfl (by decide) (u_24 (B := B) (n := n) (q := ((xN B n q))) (lo := 0) (hi := 23) w235671 g0 ⟨by omega, by omega⟩ ⟨by omega, by omega⟩ q235678 gtk q235680 grb (by omega) (by omega) p235673) (fun R235681 T235682 H235683 p235684 => ?_))
      obtain ⟨e235685, w235687, f235688, z235689, e235686, b235690, p235691⟩ := p235684
      subst e235685
      subst e235686
      rcases p235691 with ⟨a235692, a235693, a235694, a235695⟩ | ⟨a235696, a235697, a235698, a235699⟩
      · have f235700 := f235675.tr f235688 rfl
        show wp _ _ 30 41 [(2, .ref r235645), (0, .ref r0), (1, .ref r1)] [vI z235689, .ref r235645] _ H235683 _
        have u235701 := TC_k a235695
        refine wp_of e30 c30_41 (xp_I (pc' := 44) lf_1_188 w235687 g235647 sh_35 (by decide) (by decide) ty_35_11 rfl rfl (by omega) (by omega) ⟨by omega, by omega⟩ rfl (fun H235702 e235703 w235704 => ?_))
        have f235705 := f235700.put' e235703 g235647 rfl
        have k235706 : H235702 r235645 11 = z235689 := wq_u_s e235703
        refine wp_of e30 c30_44 (rw_aload_n (pc' := 45) (v := .ref r235645) rfl rfl rfl ?_)
        refine wp_of e30 c30_45 (xg_I (pc' := 48) lf_1_188 w235704 g235647 sh_35 (by decide) (by decide) ty_35_11 rfl rfl (fun b235707 b235708 => ?_))
        refine wp_of e30 c30_48 (rw_if_ge (p1 := 53) (p2 := 51) (by decide) rfl ⟨by omega, by omega⟩ (fun c235709 => ?_) (fun c235709 => ?_))
        · have _ea : xqa B n q = ((xN B n ((xN B n q)))) := by
            unfold xqa
            first | rw [if_pos (by omega)] | rw [if_neg (by omega)]
          have k235710 : H235702 r235645 6 = H r235645 6 := ((wq_u_j e235703 rfl).trans ((f235688 r235645 6 _ g235647 rfl).trans (f235672 r235645 6 _ g235647 rfl)))
          have k235711 : H235702 r235645 7 = H r235645 7 := ((wq_u_j e235703 rfl).trans ((f235688 r235645 7 _ g235647 rfl).trans (f235672 r235645 7 _ g235647 rfl)))
          have k235712 : H235702 r235645 8 = H r235645 8 := ((wq_u_j e235703 rfl).trans ((f235688 r235645 8 _ g235647 rfl).trans (f235672 r235645 8 _ g235647 rfl)))
          have k235713 : H235702 r235645 9 = H r235645 9 := ((wq_u_j e235703 rfl).trans ((f235688 r235645 9 _ g235647 rfl).trans (f235672 r235645 9 _ g235647 rfl)))
          have k235714 : H235702 r235645 10 = H r235645 10 := ((wq_u_j e235703 rfl).trans ((f235688 r235645 10 _ g235647 rfl).trans (f235672 r235645 10 _ g235647 rfl)))
          have k235715 : H235702 r235645 12 = H r235645 12 := ((wq_u_j e235703 rfl).trans ((f235688 r235645 12 _ g235647 rfl).trans (f235672 r235645 12 _ g235647 rfl)))
          have k235716 : H235702 r235645 13 = H r235645 13 := ((wq_u_j e235703 rfl).trans ((f235688 r235645 13 _ g235647 rfl).trans (f235672 r235645 13 _ g235647 rfl)))
          have k235717 : H235702 r235645 14 = H r235645 14 := ((wq_u_j e235703 rfl).trans ((f235688 r235645 14 _ g235647 rfl).trans (f235672 r235645 14 _ g235647 rfl)))
          have _eh : xhb B n q = H235702 r235645 11 := by
            unfold xhb
            first | (rw [if_pos (by omega)]; omega) | (rw [if_neg (by omega)]; omega)
          refine wp_of e30 c30_53 (rw_aload_n (pc' := 54) (v := .ref r0) rfl rfl rfl ?_)
          have k235718 : H235702 r0 0 = H235667 r0 0 := ((wq_u_t e235703 g235647 g0 rfl 0).trans (f235688 r0 0 _ g0 rfl))
          have q235719 : H235702 r0 0 = (tk : Int) := k235718.trans q235678
          refine wp_of e30 c30_54 (xg_K (pc' := 57) lf_1_12 w235704 g0 sh_3 (by decide) (by decide) rfl q235719 rfl ?_)
          refine wp_of e30 c30_57 (rw_gs (pc' := 60) (k := 25) rfl rfl rfl rfl ?_)
          have k235720 : H235702 25 0 = ((41 : Nat) : Int) := (w235704.2 25 _ (w235704.1.2.2 9 (by decide))).2.2 0 (by decide) |> fun z => by have z1 : (41 : Int) ≤ H235702 25 0 ∧ H235702 25 0 ≤ 41 := z; omega
          refine wp_of e30 c30_60 (rw_getR (pc' := 63) (n := 2) (b := 41) (e := _) (lf_1_181).choose_spec.1 (lf_1_181).choose_spec.2.1 (w235704.sh (w235704.1.2.2 9 (by decide)) rfl) (by decide) rfl k235720 rfl ?_)
          have h235721 : TC T H235702 tk B n (xN B n ((xN B n q))) := (TC_fr w235687 gtk ((wfr.rf (l := [(35, 11)])).put' e235703 g235647 rfl) rfl a235695)
          refine wp_of e30 c30_63 (xc_V (pc' := 66) (r := tk) (as := [.ref 41]) (st := []) (lm_1_185) rfl rfl (Nat.le_of_ble_eq_true rfl) w235704 gtk sh_4 (by decide) rfl (by decide) (u_19_t (B := B) (n := n) (q := ((xN B n ((xN B n q))))) (kk := 14384) w235704 gtk rfl (by decide +kernel) h235721) (fun R235722 T235723 H235724 p235725 => ?_))
          obtain ⟨e235726, e235728, z235729, e235727, b235730, p235731⟩ := p235725
          subst e235726
          subst e235727
          subst e235728
          rcases p235731 with ⟨a235732, a235733⟩ | ⟨a235734, a235735⟩
          · show wp _ _ 30 66 [(2, .ref r235645), (0, .ref r0), (1, .ref r1)] [vI z235729] _ H235702 _
            refine wp_of e30 c30_66 (rw_if_eq (p1 := 107) (p2 := 69) (by decide) rfl ⟨by omega, by omega⟩ (fun c235736 => ?_) (fun c235736 => ?_))
            · exfalso
              omega
            · refine wp_of e30 c30_69 (rw_aload_n (pc' := 70) (v := .ref r0) rfl rfl rfl ?_)
              refine wp_of e30 c30_70 (xg_K (pc' := 73) lf_1_12 w235704 g0 sh_3 (by decide) (by decide) rfl q235719 rfl ?_)
              have k235737 : H235702 tk 0 = H235667 tk 0 := ((wq_u_t e235703 g235647 gtk rfl 0).trans (f235688 tk 0 _ gtk rfl))
              have q235738 : H235702 tk 0 = (rb : Int) := k235737.trans q235680
              have k235739 : H235702 tk 1 = H235683 tk 1 := (wq_u_t e235703 g235647 gtk rfl 1)
              have k235740 : H235702 tk 2 = H235683 tk 2 := (wq_u_t e235703 g235647 gtk rfl 2)
              have h235741 : TP T H235702 rb B := (TP_fr w235687 grb ((wfr.rf (l := [(35, 11)])).put' e235703 g235647 rfl) rfl (TP_fr w235671 grb f235688 rfl (TP_fr hW grb f235672 rfl h235664)))
              refine wp_of e30 c30_73 (xc_V (pc' := 76) (r := tk) (as := []) (st := []) (lm_1_74) rfl rfl (Nat.le_of_ble_eq_true rfl) w235704 gtk sh_4 (by decide) rfl (by decide) (u_16 (B := B) (n := n) (a := (xE B n ((xN B n ((xN B n q)))))) (q := (xN B n ((xN B n ((xN B n q)))))) w235704 gtk q235738 grb (by omega) (by omega) (by omega) (rfl) h235741) (fun R235742 T235743 H235744 p235745 => ?_))
              obtain ⟨e235746, w235748, f235749, e235747, p235750⟩ := p235745
              subst e235746
              subst e235747
              have f235752 := f235705.tr f235749 rfl
              show wp _ _ 30 76 [(2, .ref r235645), (0, .ref r0), (1, .ref r1)] [] _ H235744 _
              have u235753 := TC_k p235750
              refine wp_of e30 c30_76 (rw_aload_n (pc' := 77) (v := .ref r0) rfl rfl rfl ?_)
              refine wp_of e30 c30_77 (rw_bipush (pc' := 79) (z := 23) rfl (by decide) ?_)
              refine wp_of e30 c30_79 (rw_iconst (pc' := 80) rfl ?_)
              refine wp_of e30 c30_80 (rw_bipush (pc' := 82) (z := 24) rfl (by decide) ?_)
              refine wp_of e30 c30_82 (rw_bipush (pc' := 84) (z := 24) rfl (by decide) ?_)
              have k235754 : H235744 r0 0 = H235702 r0 0 := (f235749 r0 0 _ g0 rfl)
              have q235755 : H235744 r0 0 = (tk : Int) := k235754.trans q235719
              have k235756 : H235744 tk 0 = H235702 tk 0 := (f235749 tk 0 _ gtk rfl)
              have q235757 : H235744 tk 0 = (rb : Int) := k235756.trans q235738
              refine wp_of e30 c30_84 (xc_V (pc' := 87) (r := r0) (as := [vI 23, vI 1, vI 24, vI 24]) (st := []) (lm_1_154) rfl rfl (Nat.le_of_ble_eq_true rfl) w235748 g0 sh_3 (by decide) rfl (by decide) (u_29 (B := B) (n := n) (q := ((xN B n ((xN B n ((xN B n q))))))) w235748 g0 ⟨by omega, by omega⟩ ⟨by omega, by omega⟩ ⟨by omega, by omega⟩ ⟨by omega, by omega⟩ q235755 gtk q235757 grb p235750) (fun R235758 T235759 H235760 p235761 => ?_))
              obtain ⟨e235762, w235764, f235765, z235766, e235763, b235767, p235768⟩ := p235761
              subst e235762
              subst e235763
              rcases p235768 with ⟨a235769, a235770, a235771, a235772, a235773, a235774, a235775, a235776⟩ | ⟨a235777, a235778, a235779, a235780, a235781⟩
              · have f235782 := f235752.tr f235765 rfl
                show wp _ _ 30 87 [(2, .ref r235645), (0, .ref r0), (1, .ref r1)] [vI z235766] _ H235760 _
                have u235783 := TC_k a235776
                refine wp_of e30 c30_87 (rw_if_ne (p1 := 92) (p2 := 90) (by decide) rfl ⟨by omega, by omega⟩ (fun c235784 => ?_) (fun c235784 => ?_))
                · refine wp_of e30 c30_92 (rw_aload_n (pc' := 93) (v := .ref r235645) rfl rfl rfl ?_)
                  refine wp_of e30 c30_93 (rw_aload_n (pc' := 94) (v := .ref r0) rfl rfl rfl ?_)
                  refine wp_of e30 c30_94 (xg_I (pc' := 97) lf_1_158 w235764 g0 sh_3 (by decide) (by decide) ty_3_1 rfl rfl (fun b235785 b235786 => ?_))
                  refine wp_of e30 c30_97 (rw_aload_n (pc' := 98) (v := .ref r0) rfl rfl rfl ?_)
                  refine wp_of e30 c30_98 (xg_I (pc' := 101) lf_1_164 w235764 g0 sh_3 (by decide) (by decide) ty_3_2 rfl rfl (fun b235787 b235788 => ?_))
                  refine wp_of e30 c30_101 (xc_S (pc' := 104) (as := [vI (H235760 r0 1), vI (H235760 r0 2)]) (st := [.ref r235645]) (lm_1_194) rfl rfl (Nat.le_of_ble_eq_true rfl) rfl (by decide) (u_31 (lo := (xV B n (xN B n ((xN B n ((xN B n q))))))) (hi := (xV B n (xN B n (xN B n (xN B n ((xN B n ((xN B n q))))))))) w235764 ⟨by omega, by omega⟩ ⟨by omega, by omega⟩ (by omega) (by omega) (by omega)) (fun R235789 T235790 H235791 p235792 => ?_))
                  obtain ⟨e235793, e235795, z235796, e235794, b235797, p235798⟩ := p235792
                  subst e235793
                  subst e235794
                  subst e235795
                  show wp _ _ 30 104 [(2, .ref r235645), (0, .ref r0), (1, .ref r1)] [vI z235796, .ref r235645] _ H235760 _
                  refine wp_of e30 c30_104 (xp_I (pc' := 107) lf_1_197 w235764 g235647 sh_35 (by decide) (by decide) ty_35_12 rfl rfl (by omega) (by omega) ⟨by omega, by omega⟩ rfl (fun H235800 e235801 w235802 => ?_))
                  have f235803 := f235782.put' e235801 g235647 rfl
                  have k235804 : H235800 r235645 12 = z235796 := wq_u_s e235801
                  have _eb : xqb B n ((xN B n ((xN B n q)))) = ((xN B n (xN B n (xN B n ((xN B n ((xN B n ((xN B n q)))))))))) := by
                    unfold xqb
                    first | rw [if_pos (by omega)] | rw [if_neg (by omega)]
                  have k235805 : H235800 r235645 6 = H235702 r235645 6 := ((wq_u_j e235801 rfl).trans ((f235765 r235645 6 _ g235647 rfl).trans (f235749 r235645 6 _ g235647 rfl)))
                  have k235806 : H235800 r235645 7 = H235702 r235645 7 := ((wq_u_j e235801 rfl).trans ((f235765 r235645 7 _ g235647 rfl).trans (f235749 r235645 7 _ g235647 rfl)))
                  have k235807 : H235800 r235645 8 = H235702 r235645 8 := ((wq_u_j e235801 rfl).trans ((f235765 r235645 8 _ g235647 rfl).trans (f235749 r235645 8 _ g235647 rfl)))
                  have k235808 : H235800 r235645 9 = H235702 r235645 9 := ((wq_u_j e235801 rfl).trans ((f235765 r235645 9 _ g235647 rfl).trans (f235749 r235645 9 _ g235647 rfl)))
                  have k235809 : H235800 r235645 10 = H235702 r235645 10 := ((wq_u_j e235801 rfl).trans ((f235765 r235645 10 _ g235647 rfl).trans (f235749 r235645 10 _ g235647 rfl)))
                  have k235810 : H235800 r235645 11 = H235702 r235645 11 := ((wq_u_j e235801 rfl).trans ((f235765 r235645 11 _ g235647 rfl).trans (f235749 r235645 11 _ g235647 rfl)))
                  have k235811 : H235800 r235645 13 = H235702 r235645 13 := ((wq_u_j e235801 rfl).trans ((f235765 r235645 13 _ g235647 rfl).trans (f235749 r235645 13 _ g235647 rfl)))
                  have k235812 : H235800 r235645 14 = H235702 r235645 14 := ((wq_u_j e235801 rfl).trans ((f235765 r235645 14 _ g235647 rfl).trans (f235749 r235645 14 _ g235647 rfl)))
                  have _en : H235800 r235645 12 = xhs (xnf B n ((xN B n ((xN B n q))))) (xnt B n ((xN B n ((xN B n q))))) := by
                    unfold xnf xnt
                    first | (rw [if_pos (by omega), if_pos (by omega)]; omega) | (rw [if_neg (by omega), if_neg (by omega)]; omega)
                  refine wp_of e30 c30_107 (rw_aload_n (pc' := 108) (v := .ref r0) rfl rfl rfl ?_)
                  have k235813 : H235800 r0 0 = H235744 r0 0 := ((wq_u_t e235801 g235647 g0 rfl 0).trans (f235765 r0 0 _ g0 rfl))
                  have q235814 : H235800 r0 0 = (tk : Int) := k235813.trans q235755
                  refine wp_of e30 c30_108 (xg_K (pc' := 111) lf_1_12 w235802 g0 sh_3 (by decide) (by decide) rfl q235814 rfl ?_)
                  refine wp_of e30 c30_111 (rw_gs (pc' := 114) (k := 26) rfl rfl rfl rfl ?_)
                  have k235815 : H235800 26 0 = ((42 : Nat) : Int) := (w235802.2 26 _ (w235802.1.2.2 10 (by decide))).2.2 0 (by decide) |> fun z => by have z1 : (42 : Int) ≤ H235800 26 0 ∧ H235800 26 0 ≤ 42 := z; omega
                  refine wp_of e30 c30_114 (rw_getR (pc' := 117) (n := 2) (b := 42) (e := _) (lf_1_181).choose_spec.1 (lf_1_181).choose_spec.2.1 (w235802.sh (w235802.1.2.2 10 (by decide)) rfl) (by decide) rfl k235815 rfl ?_)
                  have h235816 : TC T H235800 tk B n (xN B n (xN B n (xN B n ((xN B n ((xN B n ((xN B n q))))))))) := (TC_fr w235764 gtk ((wfr.rf (l := [(35, 12)])).put' e235801 g235647 rfl) rfl a235776)
                  refine wp_of e30 c30_117 (xc_V (pc' := 120) (r := tk) (as := [.ref 42]) (st := []) (lm_1_185) rfl rfl (Nat.le_of_ble_eq_true rfl) w235802 gtk sh_4 (by decide) rfl (by decide) (u_19_t (B := B) (n := n) (q := ((xN B n (xN B n (xN B n ((xN B n ((xN B n ((xN B n q))))))))))) (kk := 56377) w235802 gtk rfl (by decide +kernel) h235816) (fun R235817 T235818 H235819 p235820 => ?_))
                  obtain ⟨e235821, e235823, z235824, e235822, b235825, p235826⟩ := p235820
                  subst e235821
                  subst e235822
                  subst e235823
                  rcases p235826 with ⟨a235827, a235828⟩ | ⟨a235829, a235830⟩
                  · show wp _ _ 30 120 [(2, .ref r235645), (0, .ref r0), (1, .ref r1)] [vI z235824] _ H235800 _
                    refine wp_of e30 c30_120 (rw_if_eq (p1 := 135) (p2 := 123) (by decide) rfl ⟨by omega, by omega⟩ (fun c235831 => ?_) (fun c235831 => ?_))
                    · exfalso
                      omega
                    · refine wp_of e30 c30_123 (rw_aload_n (pc' := 124) (v := .ref r0) rfl rfl rfl ?_)
                      refine wp_of e30 c30_124 (xg_K (pc' := 127) lf_1_12 w235802 g0 sh_3 (by decide) (by decide) rfl q235814 rfl ?_)
                      have k235832 : H235800 tk 0 = H235744 tk 0 := ((wq_u_t e235801 g235647 gtk rfl 0).trans (f235765 tk 0 _ gtk rfl))
                      have q235833 : H235800 tk 0 = (rb : Int) := k235832.trans q235757
                      have k235834 : H235800 tk 1 = H235760 tk 1 := (wq_u_t e235801 g235647 gtk rfl 1)
                      have k235835 : H235800 tk 2 = H235760 tk 2 := (wq_u_t e235801 g235647 gtk rfl 2)
                      have h235836 : TP T H235800 rb B := (TP_fr w235764 grb ((wfr.rf (l := [(35, 12)])).put' e235801 g235647 rfl) rfl (TP_fr w235748 grb f235765 rfl (TP_fr w235704 grb f235749 rfl h235741)))
                      refine wp_of e30 c30_127 (xc_V (pc' := 130) (r := tk) (as := []) (st := []) (lm_1_74) rfl rfl (Nat.le_of_ble_eq_true rfl) w235802 gtk sh_4 (by decide) rfl (by decide) (u_16 (B := B) (n := n) (a := (xE B n ((xN B n (xN B n (xN B n ((xN B n ((xN B n ((xN B n q)))))))))))) (q := (xN B n ((xN B n (xN B n (xN B n ((xN B n ((xN B n ((xN B n q)))))))))))) w235802 gtk q235833 grb (by omega) (by omega) (by omega) (rfl) h235836) (fun R235837 T235838 H235839 p235840 => ?_))
                      obtain ⟨e235841, w235843, f235844, e235842, p235845⟩ := p235840
                      subst e235841
                      subst e235842
                      have f235847 := f235803.tr f235844 rfl
                      show wp _ _ 30 130 [(2, .ref r235645), (0, .ref r0), (1, .ref r1)] [] _ H235839 _
                      have u235848 := TC_k p235845
                      refine wp_of e30 c30_130 (rw_aload_n (pc' := 131) (v := .ref r235645) rfl rfl rfl ?_)
                      refine wp_of e30 c30_131 (rw_iconst (pc' := 132) rfl ?_)
                      refine wp_of e30 c30_132 (xp_Z (pc' := 135) lf_1_203 w235843 g235647 sh_35 (by decide) (by decide) ty_35_13 rfl rfl (by omega) (by omega) rfl (fun H235849 e235850 w235851 => ?_))
                      have f235852 := f235847.put' e235850 g235647 rfl
                      have k235853 : H235849 r235645 13 = 1 := wq_u_s e235850
                      have _ec : xqc B n ((xN B n (xN B n (xN B n ((xN B n ((xN B n ((xN B n q)))))))))) = ((xN B n ((xN B n (xN B n (xN B n ((xN B n ((xN B n ((xN B n q)))))))))))) := by
                        unfold xqc
                        first | rw [if_pos (by omega)] | rw [if_neg (by omega)]
                      have k235854 : H235849 r235645 6 = H235800 r235645 6 := ((wq_u_j e235850 rfl).trans (f235844 r235645 6 _ g235647 rfl))
                      have k235855 : H235849 r235645 7 = H235800 r235645 7 := ((wq_u_j e235850 rfl).trans (f235844 r235645 7 _ g235647 rfl))
                      have k235856 : H235849 r235645 8 = H235800 r235645 8 := ((wq_u_j e235850 rfl).trans (f235844 r235645 8 _ g235647 rfl))
                      have k235857 : H235849 r235645 9 = H235800 r235645 9 := ((wq_u_j e235850 rfl).trans (f235844 r235645 9 _ g235647 rfl))
                      have k235858 : H235849 r235645 10 = H235800 r235645 10 := ((wq_u_j e235850 rfl).trans (f235844 r235645 10 _ g235647 rfl))
                      have k235859 : H235849 r235645 11 = H235800 r235645 11 := ((wq_u_j e235850 rfl).trans (f235844 r235645 11 _ g235647 rfl))
                      have k235860 : H235849 r235645 12 = H235800 r235645 12 := ((wq_u_j e235850 rfl).trans (f235844 r235645 12 _ g235647 rfl))
                      have k235861 : H235849 r235645 14 = H235800 r235645 14 := ((wq_u_j e235850 rfl).trans (f235844 r235645 14 _ g235647 rfl))
                      have _ew : xaw B n ((xN B n (xN B n (xN B n ((xN B n ((xN B n ((xN B n q)))))))))) = H235849 r235645 13 := by
                        unfold xaw
                        first | (rw [if_pos (by omega)]; omega) | (rw [if_neg (by omega)]; omega)
                      refine wp_of e30 c30_135 (rw_aload_n (pc' := 136) (v := .ref r1) rfl rfl rfl ?_)
                      refine wp_of e30 c30_136 (rw_dup (pc' := 137) rfl rfl ?_)
                      have k235862 : H235849 r1 10 = H r1 10 := ((wq_u_t e235850 g235647 g1 rfl 10).trans ((f235844 r1 10 _ g1 rfl).trans ((wq_u_t e235801 g235647 g1 rfl 10).trans ((f235765 r1 10 _ g1 rfl).trans ((f235749 r1 10 _ g1 rfl).trans ((wq_u_t e235703 g235647 g1 rfl 10).trans ((f235688 r1 10 _ g1 rfl).trans (f235672 r1 10 _ g1 rfl))))))))
                      refine wp_of e30 c30_137 (xg_I (pc' := 140) lf_1_44 w235851 g1 sh_27 (by decide) (by decide) ty_27_10 rfl rfl (fun b235863 b235864 => ?_))
                      refine wp_of e30 c30_140 (rw_iconst (pc' := 141) rfl ?_)
                      refine wp_of e30 c30_141 (rw_iadd (pc' := 142) rfl ?_)
                      refine wp_of e30 c30_142 (xp_I (pc' := 145) lf_1_44 w235851 g1 sh_27 (by decide) (by decide) ty_27_10 rfl rfl (by omega) (by omega) ⟨by omega, by omega⟩ rfl (fun H235865 e235866 w235867 => ?_))
                      have f235868 := f235852.put' e235866 g1 rfl
                      have k235869 : H235865 r1 10 = (H235849 r1 10) + 1 := wq_u_s e235866
                      refine wp_of e30 c30_145 (rw_iconst (pc' := 146) rfl ?_)
                      have k235870 : H235865 r1 7 = H r1 7 := ((wq_u_j e235866 rfl).trans ((wq_u_t e235850 g235647 g1 rfl 7).trans ((f235844 r1 7 _ g1 rfl).trans ((wq_u_t e235801 g235647 g1 rfl 7).trans ((f235765 r1 7 _ g1 rfl).trans ((f235749 r1 7 _ g1 rfl).trans ((wq_u_t e235703 g235647 g1 rfl 7).trans ((f235688 r1 7 _ g1 rfl).trans (f235672 r1 7 _ g1 rfl)))))))))
                      have k235871 : H235865 r1 8 = H r1 8 := ((wq_u_j e235866 rfl).trans ((wq_u_t e235850 g235647 g1 rfl 8).trans ((f235844 r1 8 _ g1 rfl).trans ((wq_u_t e235801 g235647 g1 rfl 8).trans ((f235765 r1 8 _ g1 rfl).trans ((f235749 r1 8 _ g1 rfl).trans ((wq_u_t e235703 g235647 g1 rfl 8).trans ((f235688 r1 8 _ g1 rfl).trans (f235672 r1 8 _ g1 rfl)))))))))
                      have k235872 : H235865 r1 9 = H r1 9 := ((wq_u_j e235866 rfl).trans ((wq_u_t e235850 g235647 g1 rfl 9).trans ((f235844 r1 9 _ g1 rfl).trans ((wq_u_t e235801 g235647 g1 rfl 9).trans ((f235765 r1 9 _ g1 rfl).trans ((f235749 r1 9 _ g1 rfl).trans ((wq_u_t e235703 g235647 g1 rfl 9).trans ((f235688 r1 9 _ g1 rfl).trans (f235672 r1 9 _ g1 rfl)))))))))
                      have k235873 : H235865 r1 11 = H r1 11 := ((wq_u_j e235866 rfl).trans ((wq_u_t e235850 g235647 g1 rfl 11).trans ((f235844 r1 11 _ g1 rfl).trans ((wq_u_t e235801 g235647 g1 rfl 11).trans ((f235765 r1 11 _ g1 rfl).trans ((f235749 r1 11 _ g1 rfl).trans ((wq_u_t e235703 g235647 g1 rfl 11).trans ((f235688 r1 11 _ g1 rfl).trans (f235672 r1 11 _ g1 rfl)))))))))
                      have k235874 : H235865 r1 12 = H r1 12 := ((wq_u_j e235866 rfl).trans ((wq_u_t e235850 g235647 g1 rfl 12).trans ((f235844 r1 12 _ g1 rfl).trans ((wq_u_t e235801 g235647 g1 rfl 12).trans ((f235765 r1 12 _ g1 rfl).trans ((f235749 r1 12 _ g1 rfl).trans ((wq_u_t e235703 g235647 g1 rfl 12).trans ((f235688 r1 12 _ g1 rfl).trans (f235672 r1 12 _ g1 rfl)))))))))
                      have k235875 : H235865 r1 13 = H r1 13 := ((wq_u_j e235866 rfl).trans ((wq_u_t e235850 g235647 g1 rfl 13).trans ((f235844 r1 13 _ g1 rfl).trans ((wq_u_t e235801 g235647 g1 rfl 13).trans ((f235765 r1 13 _ g1 rfl).trans ((f235749 r1 13 _ g1 rfl).trans ((wq_u_t e235703 g235647 g1 rfl 13).trans ((f235688 r1 13 _ g1 rfl).trans (f235672 r1 13 _ g1 rfl)))))))))
                      have k235876 : H235865 r1 14 = H r1 14 := ((wq_u_j e235866 rfl).trans ((wq_u_t e235850 g235647 g1 rfl 14).trans ((f235844 r1 14 _ g1 rfl).trans ((wq_u_t e235801 g235647 g1 rfl 14).trans ((f235765 r1 14 _ g1 rfl).trans ((f235749 r1 14 _ g1 rfl).trans ((wq_u_t e235703 g235647 g1 rfl 14).trans ((f235688 r1 14 _ g1 rfl).trans (f235672 r1 14 _ g1 rfl)))))))))
                      have k235877 : H235865 r1 15 = H r1 15 := ((wq_u_j e235866 rfl).trans ((wq_u_t e235850 g235647 g1 rfl 15).trans ((f235844 r1 15 _ g1 rfl).trans ((wq_u_t e235801 g235647 g1 rfl 15).trans ((f235765 r1 15 _ g1 rfl).trans ((f235749 r1 15 _ g1 rfl).trans ((wq_u_t e235703 g235647 g1 rfl 15).trans ((f235688 r1 15 _ g1 rfl).trans (f235672 r1 15 _ g1 rfl)))))))))
                      have k235878 : H235865 r1 16 = H r1 16 := ((wq_u_j e235866 rfl).trans ((wq_u_t e235850 g235647 g1 rfl 16).trans ((f235844 r1 16 _ g1 rfl).trans ((wq_u_t e235801 g235647 g1 rfl 16).trans ((f235765 r1 16 _ g1 rfl).trans ((f235749 r1 16 _ g1 rfl).trans ((wq_u_t e235703 g235647 g1 rfl 16).trans ((f235688 r1 16 _ g1 rfl).trans (f235672 r1 16 _ g1 rfl)))))))))
                      have k235879 : H235865 r235645 6 = H235849 r235645 6 := (wq_u_t e235866 g1 g235647 rfl 6)
                      have k235880 : H235865 r235645 7 = H235849 r235645 7 := (wq_u_t e235866 g1 g235647 rfl 7)
                      have k235881 : H235865 r235645 8 = H235849 r235645 8 := (wq_u_t e235866 g1 g235647 rfl 8)
                      have k235882 : H235865 r235645 9 = H235849 r235645 9 := (wq_u_t e235866 g1 g235647 rfl 9)
                      have k235883 : H235865 r235645 10 = H235849 r235645 10 := (wq_u_t e235866 g1 g235647 rfl 10)
                      have k235884 : H235865 r235645 11 = H235849 r235645 11 := (wq_u_t e235866 g1 g235647 rfl 11)
                      have k235885 : H235865 r235645 12 = H235849 r235645 12 := (wq_u_t e235866 g1 g235647 rfl 12)
                      have k235886 : H235865 r235645 13 = H235849 r235645 13 := (wq_u_t e235866 g1 g235647 rfl 13)
                      have k235887 : H235865 r235645 14 = H235849 r235645 14 := (wq_u_t e235866 g1 g235647 rfl 14)
                      have o235888 : (xcs B n q) = (0, q, (xN B n ((xN B n (xN B n (xN B n ((xN B n ((xN B n ((xN B n q)))))))))))) := by
                        unfold xcs xca xcb
                        try rw [_ea]
                        try rw [_eb]
                        try rw [_ec]
                        repeat first | rw [xs_0 (by omega)] | rw [xs_1 (by omega)] | rw [if_pos (by omega)] | rw [if_neg (by omega)]
                        first | done | rfl | assumption | (exfalso; omega) | (refine Prod.ext ?_ (Prod.ext ?_ ?_) <;> (try dsimp only) <;> omega)
                      have o235888a : ((xcs B n q)).1 = 0 := by rw [o235888]
                      have o235888b : ((xcs B n q)).2.1 = q := by rw [o235888]
                      have o235888c : ((xcs B n q)).2.2 = (xN B n ((xN B n (xN B n (xN B n ((xN B n ((xN B n ((xN B n q))))))))))) := by rw [o235888]
                      have _l := @xdper_v B n y d
                      have _k := @xdper_k (H r1 10).toNat d B n y (by omega)
                      rw [← p1] at _k
                      rw [_ea, _eb] at _k
                      have _f : H235865 r235645 6 = xdper B n y d 1 (H r1 10).toNat ∧ H235865 r235645 7 = xdper B n y d 2 (H r1 10).toNat ∧ H235865 r235645 8 = xdper B n y d 3 (H r1 10).toNat ∧ H235865 r235645 9 = xdper B n y d 4 (H r1 10).toNat ∧ H235865 r235645 10 = xdper B n y d 5 (H r1 10).toNat ∧ H235865 r235645 11 = xdper B n y d 6 (H r1 10).toNat ∧ H235865 r235645 12 = xhs (xdper B n y d 7 (H r1 10).toNat) (xdper B n y d 8 (H r1 10).toNat) ∧ H235865 r235645 13 = xdper B n y d 9 (H r1 10).toNat ∧ H235865 r235645 14 = 0 := ⟨by omega, by omega, by omega, by omega, by omega, by omega, by rw [_k.2.2.2.2.2.2.1, _k.2.2.2.2.2.2.2.1]; omega, by omega, by omega⟩
                      have h235889 : TC T H235865 tk B n (xN B n ((xN B n (xN B n (xN B n ((xN B n ((xN B n ((xN B n q))))))))))) := (TC_fr w235851 gtk ((wfr.rf (l := [(27, 10)])).put' e235866 g1 rfl) rfl (TC_fr w235843 gtk ((wfr.rf (l := [(35, 13)])).put' e235850 g235647 rfl) rfl p235845))
                      have k235890 : H235865 r1 0 = H r1 0 := ((wq_u_j e235866 rfl).trans ((wq_u_t e235850 g235647 g1 rfl 0).trans ((f235844 r1 0 _ g1 rfl).trans ((wq_u_t e235801 g235647 g1 rfl 0).trans ((f235765 r1 0 _ g1 rfl).trans ((f235749 r1 0 _ g1 rfl).trans ((wq_u_t e235703 g235647 g1 rfl 0).trans ((f235688 r1 0 _ g1 rfl).trans (f235672 r1 0 _ g1 rfl)))))))))
                      have q235891 : H235865 r1 0 = (r235640 : Int) := k235890.trans q235641
                      have k235892 : H235865 r235640 ((H r1 10).toNat) = H r235640 ((H r1 10).toNat) := ((wq_u_t e235866 g1 g235642 rfl ((H r1 10).toNat)).trans ((wq_u_t e235850 g235647 g235642 rfl ((H r1 10).toNat)).trans ((f235844 r235640 ((H r1 10).toNat) _ g235642 rfl).trans ((wq_u_t e235801 g235647 g235642 rfl ((H r1 10).toNat)).trans ((f235765 r235640 ((H r1 10).toNat) _ g235642 rfl).trans ((f235749 r235640 ((H r1 10).toNat) _ g235642 rfl).trans ((wq_u_t e235703 g235647 g235642 rfl ((H r1 10).toNat)).trans ((f235688 r235640 ((H r1 10).toNat) _ g235642 rfl).trans (f235672 r235640 ((H r1 10).toNat) _ g235642 rfl)))))))))
                      have q235893 : H235865 r235640 ((H r1 10).toNat) = (r235645 : Int) := k235892.trans q235646
                      have h235894 : ST T H235865 r1 (d 13) := (ST_fr w235851 g1 ((wfr.rf (l := [(27, 10)])).put' e235866 g1 rfl) rfl (ST_fr w235843 g1 ((wfr.rf (l := [(35, 13)])).put' e235850 g235647 rfl) rfl (ST_fr w235802 g1 f235844 rfl (ST_fr w235764 g1 ((wfr.rf (l := [(35, 12)])).put' e235801 g235647 rfl) rfl (ST_fr w235748 g1 f235765 rfl (ST_fr w235704 g1 f235749 rfl (ST_fr w235687 g1 ((wfr.rf (l := [(35, 11)])).put' e235703 g235647 rfl) rfl (ST_fr w235671 g1 f235688 rfl (ST_fr hW g1 f235672 rfl h235634)))))))))
                      have h235895 : SV T H235865 r1 (d 13) 24 := (SV_fr w235851 g1 ((wfr.rf (l := [(27, 10)])).put' e235866 g1 rfl) rfl (SV_fr w235843 g1 ((wfr.rf (l := [(35, 13)])).put' e235850 g235647 rfl) rfl (SV_fr w235802 g1 f235844 rfl (SV_fr w235764 g1 ((wfr.rf (l := [(35, 12)])).put' e235801 g235647 rfl) rfl (SV_fr w235748 g1 f235765 rfl (SV_fr w235704 g1 f235749 rfl (SV_fr w235687 g1 ((wfr.rf (l := [(35, 11)])).put' e235703 g235647 rfl) rfl (SV_fr w235671 g1 f235688 rfl (SV_fr hW g1 f235672 rfl h235635)))))))))
                      have h235896 : DA3 T H235865 r1 (d 0 5) (d 12) := (DA3_fr w235851 g1 ((wfr.rf (l := [(27, 10)])).put' e235866 g1 rfl) rfl (DA3_fr w235843 g1 ((wfr.rf (l := [(35, 13)])).put' e235850 g235647 rfl) rfl (DA3_fr w235802 g1 f235844 rfl (DA3_fr w235764 g1 ((wfr.rf (l := [(35, 12)])).put' e235801 g235647 rfl) rfl (DA3_fr w235748 g1 f235765 rfl (DA3_fr w235704 g1 f235749 rfl (DA3_fr w235687 g1 ((wfr.rf (l := [(35, 11)])).put' e235703 g235647 rfl) rfl (DA3_fr w235671 g1 f235688 rfl (DA3_fr hW g1 f235672 rfl h235636)))))))))
                      have h235897 : DA4 T H235865 r1 (d 0 6) (d 14) := (DA4_fr w235851 g1 ((wfr.rf (l := [(27, 10)])).put' e235866 g1 rfl) rfl (DA4_fr w235843 g1 ((wfr.rf (l := [(35, 13)])).put' e235850 g235647 rfl) rfl (DA4_fr w235802 g1 f235844 rfl (DA4_fr w235764 g1 ((wfr.rf (l := [(35, 12)])).put' e235801 g235647 rfl) rfl (DA4_fr w235748 g1 f235765 rfl (DA4_fr w235704 g1 f235749 rfl (DA4_fr w235687 g1 ((wfr.rf (l := [(35, 11)])).put' e235703 g235647 rfl) rfl (DA4_fr w235671 g1 f235688 rfl (DA4_fr hW g1 f235672 rfl h235637)))))))))
                      have h235898 : DA5 T H235865 r1 (d 0 6) (d 15) := (DA5_fr w235851 g1 ((wfr.rf (l := [(27, 10)])).put' e235866 g1 rfl) rfl (DA5_fr w235843 g1 ((wfr.rf (l := [(35, 13)])).put' e235850 g235647 rfl) rfl (DA5_fr w235802 g1 f235844 rfl (DA5_fr w235764 g1 ((wfr.rf (l := [(35, 12)])).put' e235801 g235647 rfl) rfl (DA5_fr w235748 g1 f235765 rfl (DA5_fr w235704 g1 f235749 rfl (DA5_fr w235687 g1 ((wfr.rf (l := [(35, 11)])).put' e235703 g235647 rfl) rfl (DA5_fr w235671 g1 f235688 rfl (DA5_fr hW g1 f235672 rfl h235638)))))))))
                      have h235899 : DA6 T H235865 r1 (d 0 7) (d 16) := (DA6_fr w235851 g1 ((wfr.rf (l := [(27, 10)])).put' e235866 g1 rfl) rfl (DA6_fr w235843 g1 ((wfr.rf (l := [(35, 13)])).put' e235850 g235647 rfl) rfl (DA6_fr w235802 g1 f235844 rfl (DA6_fr w235764 g1 ((wfr.rf (l := [(35, 12)])).put' e235801 g235647 rfl) rfl (DA6_fr w235748 g1 f235765 rfl (DA6_fr w235704 g1 f235749 rfl (DA6_fr w235687 g1 ((wfr.rf (l := [(35, 11)])).put' e235703 g235647 rfl) rfl (DA6_fr w235671 g1 f235688 rfl (DA6_fr hW g1 f235672 rfl h235639)))))))))
                      exact wp_zreturn e30 c30_146 rfl (by omega) ⟨rfl, w235867, f235868, 1, rfl, ⟨by omega, by omega⟩, (Or.inl ⟨by omega, by omega, by omega, by rw [o235888]; exact h235889, DC_mk ⟨by omega, by omega, by omega, by omega, by omega, by omega, by omega, by omega, by omega, by omega, by omega, by omega, by omega, by omega, by omega, by omega⟩ (DQ_per g235647 (DQ_oth hW g1 f235868 rfl hDD_r1 q235891 q235893 (by omega) (by omega) (fun a ha ga => ((wq_u_tf e235866 g1 ga (by decide)).trans ((wq_u_nf e235850 ha).trans ((f235844.fn ga rfl).trans ((wq_u_nf e235801 ha).trans ((f235765.fn ga rfl).trans ((f235749.fn ga rfl).trans ((wq_u_nf e235703 ha).trans ((f235688.fn ga rfl).trans (f235672.fn ga rfl)))))))))) hDC_r1.2.1) (by omega) q235891 q235893 (k := (H r1 10).toNat) (by omega) _f) h235894 h235895 h235896 h235897 h235898 h235899 ⟨rfl, rfl, rfl, rfl, rfl⟩ ⟨by omega, by omega, by omega⟩⟩)⟩
                  · show wp _ _ 30 120 [(2, .ref r235645), (0, .ref r0), (1, .ref r1)] [vI z235824] _ H235800 _
                    refine wp_of e30 c30_120 (rw_if_eq (p1 := 135) (p2 := 123) (by decide) rfl ⟨by omega, by omega⟩ (fun c235900 => ?_) (fun c235900 => ?_))
                    · have _ec : xqc B n ((xN B n (xN B n (xN B n ((xN B n ((xN B n ((xN B n q)))))))))) = ((xN B n (xN B n (xN B n ((xN B n ((xN B n ((xN B n q)))))))))) := by
                        unfold xqc
                        first | rw [if_pos (by omega)] | rw [if_neg (by omega)]
                      have _ew : xaw B n ((xN B n (xN B n (xN B n ((xN B n ((xN B n ((xN B n q)))))))))) = H235800 r235645 13 := by
                        unfold xaw
                        first | (rw [if_pos (by omega)]; omega) | (rw [if_neg (by omega)]; omega)
                      refine wp_of e30 c30_135 (rw_aload_n (pc' := 136) (v := .ref r1) rfl rfl rfl ?_)
                      refine wp_of e30 c30_136 (rw_dup (pc' := 137) rfl rfl ?_)
                      have k235901 : H235800 r1 10 = H r1 10 := ((wq_u_t e235801 g235647 g1 rfl 10).trans ((f235765 r1 10 _ g1 rfl).trans ((f235749 r1 10 _ g1 rfl).trans ((wq_u_t e235703 g235647 g1 rfl 10).trans ((f235688 r1 10 _ g1 rfl).trans (f235672 r1 10 _ g1 rfl))))))
                      refine wp_of e30 c30_137 (xg_I (pc' := 140) lf_1_44 w235802 g1 sh_27 (by decide) (by decide) ty_27_10 rfl rfl (fun b235902 b235903 => ?_))
                      refine wp_of e30 c30_140 (rw_iconst (pc' := 141) rfl ?_)
                      refine wp_of e30 c30_141 (rw_iadd (pc' := 142) rfl ?_)
                      refine wp_of e30 c30_142 (xp_I (pc' := 145) lf_1_44 w235802 g1 sh_27 (by decide) (by decide) ty_27_10 rfl rfl (by omega) (by omega) ⟨by omega, by omega⟩ rfl (fun H235904 e235905 w235906 => ?_))
                      have f235907 := f235803.put' e235905 g1 rfl
                      have k235908 : H235904 r1 10 = (H235800 r1 10) + 1 := wq_u_s e235905
                      refine wp_of e30 c30_145 (rw_iconst (pc' := 146) rfl ?_)
                      have k235909 : H235904 r1 7 = H r1 7 := ((wq_u_j e235905 rfl).trans ((wq_u_t e235801 g235647 g1 rfl 7).trans ((f235765 r1 7 _ g1 rfl).trans ((f235749 r1 7 _ g1 rfl).trans ((wq_u_t e235703 g235647 g1 rfl 7).trans ((f235688 r1 7 _ g1 rfl).trans (f235672 r1 7 _ g1 rfl)))))))
                      have k235910 : H235904 r1 8 = H r1 8 := ((wq_u_j e235905 rfl).trans ((wq_u_t e235801 g235647 g1 rfl 8).trans ((f235765 r1 8 _ g1 rfl).trans ((f235749 r1 8 _ g1 rfl).trans ((wq_u_t e235703 g235647 g1 rfl 8).trans ((f235688 r1 8 _ g1 rfl).trans (f235672 r1 8 _ g1 rfl)))))))
                      have k235911 : H235904 r1 9 = H r1 9 := ((wq_u_j e235905 rfl).trans ((wq_u_t e235801 g235647 g1 rfl 9).trans ((f235765 r1 9 _ g1 rfl).trans ((f235749 r1 9 _ g1 rfl).trans ((wq_u_t e235703 g235647 g1 rfl 9).trans ((f235688 r1 9 _ g1 rfl).trans (f235672 r1 9 _ g1 rfl)))))))
                      have k235912 : H235904 r1 11 = H r1 11 := ((wq_u_j e235905 rfl).trans ((wq_u_t e235801 g235647 g1 rfl 11).trans ((f235765 r1 11 _ g1 rfl).trans ((f235749 r1 11 _ g1 rfl).trans ((wq_u_t e235703 g235647 g1 rfl 11).trans ((f235688 r1 11 _ g1 rfl).trans (f235672 r1 11 _ g1 rfl)))))))
                      have k235913 : H235904 r1 12 = H r1 12 := ((wq_u_j e235905 rfl).trans ((wq_u_t e235801 g235647 g1 rfl 12).trans ((f235765 r1 12 _ g1 rfl).trans ((f235749 r1 12 _ g1 rfl).trans ((wq_u_t e235703 g235647 g1 rfl 12).trans ((f235688 r1 12 _ g1 rfl).trans (f235672 r1 12 _ g1 rfl)))))))
                      have k235914 : H235904 r1 13 = H r1 13 := ((wq_u_j e235905 rfl).trans ((wq_u_t e235801 g235647 g1 rfl 13).trans ((f235765 r1 13 _ g1 rfl).trans ((f235749 r1 13 _ g1 rfl).trans ((wq_u_t e235703 g235647 g1 rfl 13).trans ((f235688 r1 13 _ g1 rfl).trans (f235672 r1 13 _ g1 rfl)))))))
                      have k235915 : H235904 r1 14 = H r1 14 := ((wq_u_j e235905 rfl).trans ((wq_u_t e235801 g235647 g1 rfl 14).trans ((f235765 r1 14 _ g1 rfl).trans ((f235749 r1 14 _ g1 rfl).trans ((wq_u_t e235703 g235647 g1 rfl 14).trans ((f235688 r1 14 _ g1 rfl).trans (f235672 r1 14 _ g1 rfl)))))))
                      have k235916 : H235904 r1 15 = H r1 15 := ((wq_u_j e235905 rfl).trans ((wq_u_t e235801 g235647 g1 rfl 15).trans ((f235765 r1 15 _ g1 rfl).trans ((f235749 r1 15 _ g1 rfl).trans ((wq_u_t e235703 g235647 g1 rfl 15).trans ((f235688 r1 15 _ g1 rfl).trans (f235672 r1 15 _ g1 rfl)))))))
                      have k235917 : H235904 r1 16 = H r1 16 := ((wq_u_j e235905 rfl).trans ((wq_u_t e235801 g235647 g1 rfl 16).trans ((f235765 r1 16 _ g1 rfl).trans ((f235749 r1 16 _ g1 rfl).trans ((wq_u_t e235703 g235647 g1 rfl 16).trans ((f235688 r1 16 _ g1 rfl).trans (f235672 r1 16 _ g1 rfl)))))))
                      have k235918 : H235904 r235645 6 = H235800 r235645 6 := (wq_u_t e235905 g1 g235647 rfl 6)
                      have k235919 : H235904 r235645 7 = H235800 r235645 7 := (wq_u_t e235905 g1 g235647 rfl 7)
                      have k235920 : H235904 r235645 8 = H235800 r235645 8 := (wq_u_t e235905 g1 g235647 rfl 8)
                      have k235921 : H235904 r235645 9 = H235800 r235645 9 := (wq_u_t e235905 g1 g235647 rfl 9)
                      have k235922 : H235904 r235645 10 = H235800 r235645 10 := (wq_u_t e235905 g1 g235647 rfl 10)
                      have k235923 : H235904 r235645 11 = H235800 r235645 11 := (wq_u_t e235905 g1 g235647 rfl 11)
                      have k235924 : H235904 r235645 12 = H235800 r235645 12 := (wq_u_t e235905 g1 g235647 rfl 12)
                      have k235925 : H235904 r235645 13 = H235800 r235645 13 := (wq_u_t e235905 g1 g235647 rfl 13)
                      have k235926 : H235904 r235645 14 = H235800 r235645 14 := (wq_u_t e235905 g1 g235647 rfl 14)
                      have o235927 : (xcs B n q) = (0, q, (xN B n (xN B n (xN B n ((xN B n ((xN B n ((xN B n q)))))))))) := by
                        unfold xcs xca xcb
                        try rw [_ea]
                        try rw [_eb]
                        try rw [_ec]
                        repeat first | rw [xs_0 (by omega)] | rw [xs_1 (by omega)] | rw [if_pos (by omega)] | rw [if_neg (by omega)]
                        first | done | rfl | assumption | (exfalso; omega) | (refine Prod.ext ?_ (Prod.ext ?_ ?_) <;> (try dsimp only) <;> omega)
                      have o235927a : ((xcs B n q)).1 = 0 := by rw [o235927]
                      have o235927b : ((xcs B n q)).2.1 = q := by rw [o235927]
                      have o235927c : ((xcs B n q)).2.2 = (xN B n (xN B n (xN B n ((xN B n ((xN B n ((xN B n q))))))))) := by rw [o235927]
                      have _l := @xdper_v B n y d
                      have _k := @xdper_k (H r1 10).toNat d B n y (by omega)
                      rw [← p1] at _k
                      rw [_ea, _eb] at _k
                      have _f : H235904 r235645 6 = xdper B n y d 1 (H r1 10).toNat ∧ H235904 r235645 7 = xdper B n y d 2 (H r1 10).toNat ∧ H235904 r235645 8 = xdper B n y d 3 (H r1 10).toNat ∧ H235904 r235645 9 = xdper B n y d 4 (H r1 10).toNat ∧ H235904 r235645 10 = xdper B n y d 5 (H r1 10).toNat ∧ H235904 r235645 11 = xdper B n y d 6 (H r1 10).toNat ∧ H235904 r235645 12 = xhs (xdper B n y d 7 (H r1 10).toNat) (xdper B n y d 8 (H r1 10).toNat) ∧ H235904 r235645 13 = xdper B n y d 9 (H r1 10).toNat ∧ H235904 r235645 14 = 0 := ⟨by omega, by omega, by omega, by omega, by omega, by omega, by rw [_k.2.2.2.2.2.2.1, _k.2.2.2.2.2.2.2.1]; omega, by omega, by omega⟩
                      have h235928 : TC T H235904 tk B n (xN B n (xN B n (xN B n ((xN B n ((xN B n ((xN B n q))))))))) := (TC_fr w235802 gtk ((wfr.rf (l := [(27, 10)])).put' e235905 g1 rfl) rfl h235816)
                      have k235929 : H235904 r1 0 = H r1 0 := ((wq_u_j e235905 rfl).trans ((wq_u_t e235801 g235647 g1 rfl 0).trans ((f235765 r1 0 _ g1 rfl).trans ((f235749 r1 0 _ g1 rfl).trans ((wq_u_t e235703 g235647 g1 rfl 0).trans ((f235688 r1 0 _ g1 rfl).trans (f235672 r1 0 _ g1 rfl)))))))
                      have q235930 : H235904 r1 0 = (r235640 : Int) := k235929.trans q235641
                      have k235931 : H235904 r235640 ((H r1 10).toNat) = H r235640 ((H r1 10).toNat) := ((wq_u_t e235905 g1 g235642 rfl ((H r1 10).toNat)).trans ((wq_u_t e235801 g235647 g235642 rfl ((H r1 10).toNat)).trans ((f235765 r235640 ((H r1 10).toNat) _ g235642 rfl).trans ((f235749 r235640 ((H r1 10).toNat) _ g235642 rfl).trans ((wq_u_t e235703 g235647 g235642 rfl ((H r1 10).toNat)).trans ((f235688 r235640 ((H r1 10).toNat) _ g235642 rfl).trans (f235672 r235640 ((H r1 10).toNat) _ g235642 rfl)))))))
                      have q235932 : H235904 r235640 ((H r1 10).toNat) = (r235645 : Int) := k235931.trans q235646
                      have h235933 : ST T H235904 r1 (d 13) := (ST_fr w235802 g1 ((wfr.rf (l := [(27, 10)])).put' e235905 g1 rfl) rfl (ST_fr w235764 g1 ((wfr.rf (l := [(35, 12)])).put' e235801 g235647 rfl) rfl (ST_fr w235748 g1 f235765 rfl (ST_fr w235704 g1 f235749 rfl (ST_fr w235687 g1 ((wfr.rf (l := [(35, 11)])).put' e235703 g235647 rfl) rfl (ST_fr w235671 g1 f235688 rfl (ST_fr hW g1 f235672 rfl h235634)))))))
                      have h235934 : SV T H235904 r1 (d 13) 24 := (SV_fr w235802 g1 ((wfr.rf (l := [(27, 10)])).put' e235905 g1 rfl) rfl (SV_fr w235764 g1 ((wfr.rf (l := [(35, 12)])).put' e235801 g235647 rfl) rfl (SV_fr w235748 g1 f235765 rfl (SV_fr w235704 g1 f235749 rfl (SV_fr w235687 g1 ((wfr.rf (l := [(35, 11)])).put' e235703 g235647 rfl) rfl (SV_fr w235671 g1 f235688 rfl (SV_fr hW g1 f235672 rfl h235635)))))))
                      have h235935 : DA3 T H235904 r1 (d 0 5) (d 12) := (DA3_fr w235802 g1 ((wfr.rf (l := [(27, 10)])).put' e235905 g1 rfl) rfl (DA3_fr w235764 g1 ((wfr.rf (l := [(35, 12)])).put' e235801 g235647 rfl) rfl (DA3_fr w235748 g1 f235765 rfl (DA3_fr w235704 g1 f235749 rfl (DA3_fr w235687 g1 ((wfr.rf (l := [(35, 11)])).put' e235703 g235647 rfl) rfl (DA3_fr w235671 g1 f235688 rfl (DA3_fr hW g1 f235672 rfl h235636)))))))
                      have h235936 : DA4 T H235904 r1 (d 0 6) (d 14) := (DA4_fr w235802 g1 ((wfr.rf (l := [(27, 10)])).put' e235905 g1 rfl) rfl (DA4_fr w235764 g1 ((wfr.rf (l := [(35, 12)])).put' e235801 g235647 rfl) rfl (DA4_fr w235748 g1 f235765 rfl (DA4_fr w235704 g1 f235749 rfl (DA4_fr w235687 g1 ((wfr.rf (l := [(35, 11)])).put' e235703 g235647 rfl) rfl (DA4_fr w235671 g1 f235688 rfl (DA4_fr hW g1 f235672 rfl h235637)))))))
                      have h235937 : DA5 T H235904 r1 (d 0 6) (d 15) := (DA5_fr w235802 g1 ((wfr.rf (l := [(27, 10)])).put' e235905 g1 rfl) rfl (DA5_fr w235764 g1 ((wfr.rf (l := [(35, 12)])).put' e235801 g235647 rfl) rfl (DA5_fr w235748 g1 f235765 rfl (DA5_fr w235704 g1 f235749 rfl (DA5_fr w235687 g1 ((wfr.rf (l := [(35, 11)])).put' e235703 g235647 rfl) rfl (DA5_fr w235671 g1 f235688 rfl (DA5_fr hW g1 f235672 rfl h235638)))))))
                      have h235938 : DA6 T H235904 r1 (d 0 7) (d 16) := (DA6_fr w235802 g1 ((wfr.rf (l := [(27, 10)])).put' e235905 g1 rfl) rfl (DA6_fr w235764 g1 ((wfr.rf (l := [(35, 12)])).put' e235801 g235647 rfl) rfl (DA6_fr w235748 g1 f235765 rfl (DA6_fr w235704 g1 f235749 rfl (DA6_fr w235687 g1 ((wfr.rf (l := [(35, 11)])).put' e235703 g235647 rfl) rfl (DA6_fr w235671 g1 f235688 rfl (DA6_fr hW g1 f235672 rfl h235639)))))))
                      exact wp_zreturn e30 c30_146 rfl (by omega) ⟨rfl, w235906, f235907, 1, rfl, ⟨by omega, by omega⟩, (Or.inl ⟨by omega, by omega, by omega, by rw [o235927]; exact h235928, DC_mk ⟨by omega, by omega, by omega, by omega, by omega, by omega, by omega, by omega, by omega, by omega, by omega, by omega, by omega, by omega, by omega, by omega⟩ (DQ_per g235647 (DQ_oth hW g1 f235907 rfl hDD_r1 q235930 q235932 (by omega) (by omega) (fun a ha ga => ((wq_u_tf e235905 g1 ga (by decide)).trans ((wq_u_nf e235801 ha).trans ((f235765.fn ga rfl).trans ((f235749.fn ga rfl).trans ((wq_u_nf e235703 ha).trans ((f235688.fn ga rfl).trans (f235672.fn ga rfl)))))))) hDC_r1.2.1) (by omega) q235930 q235932 (k := (H r1 10).toNat) (by omega) _f) h235933 h235934 h235935 h235936 h235937 h235938 ⟨rfl, rfl, rfl, rfl, rfl⟩ ⟨by omega, by omega, by omega⟩⟩)⟩
                    · exfalso
                      omega
                · exfalso
                  omega
              · have f235939 := f235752.tr f235765 rfl
                show wp _ _ 30 87 [(2, .ref r235645), (0, .ref r0), (1, .ref r1)] [vI z235766] _ H235760 _
                refine wp_of e30 c30_87 (rw_if_ne (p1 := 92) (p2 := 90) (by decide) rfl ⟨by omega, by omega⟩ (fun c235940 => ?_) (fun c235940 => ?_))
                · exfalso
                  omega
                · refine wp_of e30 c30_90 (rw_iconst (pc' := 91) rfl ?_)
                  have o235941 : (xcs B n q) = ((xrg B n ((xN B n ((xN B n ((xN B n q)))))) 23 1 24 24).1, (xrg B n ((xN B n ((xN B n ((xN B n q)))))) 23 1 24 24).2.1, (xrg B n ((xN B n ((xN B n ((xN B n q)))))) 23 1 24 24).2.2) := by
                    unfold xcs xca xcb
                    try rw [_ea]
                    try rw [_eb]
                    try rw [_ec]
                    repeat first | rw [xs_0 (by omega)] | rw [xs_1 (by omega)] | rw [if_pos (by omega)] | rw [if_neg (by omega)]
                    first | done | rfl | assumption | (exfalso; omega) | (refine Prod.ext ?_ (Prod.ext ?_ ?_) <;> (try dsimp only) <;> omega)
                  have o235941a : ((xcs B n q)).1 = (xrg B n ((xN B n ((xN B n ((xN B n q)))))) 23 1 24 24).1 := by rw [o235941]
                  have o235941b : ((xcs B n q)).2.1 = (xrg B n ((xN B n ((xN B n ((xN B n q)))))) 23 1 24 24).2.1 := by rw [o235941]
                  have o235941c : ((xcs B n q)).2.2 = (xrg B n ((xN B n ((xN B n ((xN B n q)))))) 23 1 24 24).2.2 := by rw [o235941]
                  exact wp_zreturn e30 c30_91 rfl (by omega) ⟨rfl, w235764, f235939, 0, rfl, ⟨by omega, by omega⟩, (Or.inr ⟨by omega, by omega, by omega, by omega, by omega⟩)⟩
          · show wp _ _ 30 66 [(2, .ref r235645), (0, .ref r0), (1, .ref r1)] [vI z235729] _ H235702 _
            refine wp_of e30 c30_66 (rw_if_eq (p1 := 107) (p2 := 69) (by decide) rfl ⟨by omega, by omega⟩ (fun c235942 => ?_) (fun c235942 => ?_))
            · have _eb : xqb B n ((xN B n ((xN B n q)))) = ((xN B n ((xN B n q)))) := by
                unfold xqb
                first | rw [if_pos (by omega)] | rw [if_neg (by omega)]
              have _en : H235702 r235645 12 = xhs (xnf B n ((xN B n ((xN B n q))))) (xnt B n ((xN B n ((xN B n q))))) := by
                unfold xnf xnt
                first | (rw [if_pos (by omega), if_pos (by omega)]; omega) | (rw [if_neg (by omega), if_neg (by omega)]; omega)
              refine wp_of e30 c30_107 (rw_aload_n (pc' := 108) (v := .ref r0) rfl rfl rfl ?_)
              refine wp_of e30 c30_108 (xg_K (pc' := 111) lf_1_12 w235704 g0 sh_3 (by decide) (by decide) rfl q235719 rfl ?_)
              refine wp_of e30 c30_111 (rw_gs (pc' := 114) (k := 26) rfl rfl rfl rfl ?_)
              have k235943 : H235702 26 0 = ((42 : Nat) : Int) := (w235704.2 26 _ (w235704.1.2.2 10 (by decide))).2.2 0 (by decide) |> fun z => by have z1 : (42 : Int) ≤ H235702 26 0 ∧ H235702 26 0 ≤ 42 := z; omega
              refine wp_of e30 c30_114 (rw_getR (pc' := 117) (n := 2) (b := 42) (e := _) (lf_1_181).choose_spec.1 (lf_1_181).choose_spec.2.1 (w235704.sh (w235704.1.2.2 10 (by decide)) rfl) (by decide) rfl k235943 rfl ?_)
              refine wp_of e30 c30_117 (xc_V (pc' := 120) (r := tk) (as := [.ref 42]) (st := []) (lm_1_185) rfl rfl (Nat.le_of_ble_eq_true rfl) w235704 gtk sh_4 (by decide) rfl (by decide) (u_19_t (B := B) (n := n) (q := ((xN B n ((xN B n q))))) (kk := 56377) w235704 gtk rfl (by decide +kernel) h235721) (fun R235944 T235945 H235946 p235947 => ?_))
              obtain ⟨e235948, e235950, z235951, e235949, b235952, p235953⟩ := p235947
              subst e235948
              subst e235949
              subst e235950
              rcases p235953 with ⟨a235954, a235955⟩ | ⟨a235956, a235957⟩
              · show wp _ _ 30 120 [(2, .ref r235645), (0, .ref r0), (1, .ref r1)] [vI z235951] _ H235702 _
                refine wp_of e30 c30_120 (rw_if_eq (p1 := 135) (p2 := 123) (by decide) rfl ⟨by omega, by omega⟩ (fun c235958 => ?_) (fun c235958 => ?_))
                · exfalso
                  omega
                · refine wp_of e30 c30_123 (rw_aload_n (pc' := 124) (v := .ref r0) rfl rfl rfl ?_)
                  refine wp_of e30 c30_124 (xg_K (pc' := 127) lf_1_12 w235704 g0 sh_3 (by decide) (by decide) rfl q235719 rfl ?_)
                  have k235959 : H235702 tk 0 = H235667 tk 0 := ((wq_u_t e235703 g235647 gtk rfl 0).trans (f235688 tk 0 _ gtk rfl))
                  have q235960 : H235702 tk 0 = (rb : Int) := k235959.trans q235680
                  have k235961 : H235702 tk 1 = H235683 tk 1 := (wq_u_t e235703 g235647 gtk rfl 1)
                  have k235962 : H235702 tk 2 = H235683 tk 2 := (wq_u_t e235703 g235647 gtk rfl 2)
                  have h235963 : TP T H235702 rb B := (TP_fr w235687 grb ((wfr.rf (l := [(35, 11)])).put' e235703 g235647 rfl) rfl (TP_fr w235671 grb f235688 rfl (TP_fr hW grb f235672 rfl h235664)))
                  refine wp_of e30 c30_127 (xc_V (pc' := 130) (r := tk) (as := []) (st := []) (lm_1_74) rfl rfl (Nat.le_of_ble_eq_true rfl) w235704 gtk sh_4 (by decide) rfl (by decide) (u_16 (B := B) (n := n) (a := (xE B n ((xN B n ((xN B n q)))))) (q := (xN B n ((xN B n ((xN B n q)))))) w235704 gtk q235960 grb (by omega) (by omega) (by omega) (rfl) h235963) (fun R235964 T235965 H235966 p235967 => ?_))
                  obtain ⟨e235968, w235970, f235971, e235969, p235972⟩ := p235967
                  subst e235968
                  subst e235969
                  have f235974 := f235705.tr f235971 rfl
                  show wp _ _ 30 130 [(2, .ref r235645), (0, .ref r0), (1, .ref r1)] [] _ H235966 _
                  have u235975 := TC_k p235972
                  refine wp_of e30 c30_130 (rw_aload_n (pc' := 131) (v := .ref r235645) rfl rfl rfl ?_)
                  refine wp_of e30 c30_131 (rw_iconst (pc' := 132) rfl ?_)
                  refine wp_of e30 c30_132 (xp_Z (pc' := 135) lf_1_203 w235970 g235647 sh_35 (by decide) (by decide) ty_35_13 rfl rfl (by omega) (by omega) rfl (fun H235976 e235977 w235978 => ?_))
                  have f235979 := f235974.put' e235977 g235647 rfl
                  have k235980 : H235976 r235645 13 = 1 := wq_u_s e235977
                  have _ec : xqc B n ((xN B n ((xN B n q)))) = ((xN B n ((xN B n ((xN B n q)))))) := by
                    unfold xqc
                    first | rw [if_pos (by omega)] | rw [if_neg (by omega)]
                  have k235981 : H235976 r235645 6 = H235702 r235645 6 := ((wq_u_j e235977 rfl).trans (f235971 r235645 6 _ g235647 rfl))
                  have k235982 : H235976 r235645 7 = H235702 r235645 7 := ((wq_u_j e235977 rfl).trans (f235971 r235645 7 _ g235647 rfl))
                  have k235983 : H235976 r235645 8 = H235702 r235645 8 := ((wq_u_j e235977 rfl).trans (f235971 r235645 8 _ g235647 rfl))
                  have k235984 : H235976 r235645 9 = H235702 r235645 9 := ((wq_u_j e235977 rfl).trans (f235971 r235645 9 _ g235647 rfl))
                  have k235985 : H235976 r235645 10 = H235702 r235645 10 := ((wq_u_j e235977 rfl).trans (f235971 r235645 10 _ g235647 rfl))
                  have k235986 : H235976 r235645 11 = H235702 r235645 11 := ((wq_u_j e235977 rfl).trans (f235971 r235645 11 _ g235647 rfl))
                  have k235987 : H235976 r235645 12 = H235702 r235645 12 := ((wq_u_j e235977 rfl).trans (f235971 r235645 12 _ g235647 rfl))
                  have k235988 : H235976 r235645 14 = H235702 r235645 14 := ((wq_u_j e235977 rfl).trans (f235971 r235645 14 _ g235647 rfl))
                  have _ew : xaw B n ((xN B n ((xN B n q)))) = H235976 r235645 13 := by
                    unfold xaw
                    first | (rw [if_pos (by omega)]; omega) | (rw [if_neg (by omega)]; omega)
                  refine wp_of e30 c30_135 (rw_aload_n (pc' := 136) (v := .ref r1) rfl rfl rfl ?_)
                  refine wp_of e30 c30_136 (rw_dup (pc' := 137) rfl rfl ?_)
                  have k235989 : H235976 r1 10 = H r1 10 := ((wq_u_t e235977 g235647 g1 rfl 10).trans ((f235971 r1 10 _ g1 rfl).trans ((wq_u_t e235703 g235647 g1 rfl 10).trans ((f235688 r1 10 _ g1 rfl).trans (f235672 r1 10 _ g1 rfl)))))
                  refine wp_of e30 c30_137 (xg_I (pc' := 140) lf_1_44 w235978 g1 sh_27 (by decide) (by decide) ty_27_10 rfl rfl (fun b235990 b235991 => ?_))
                  refine wp_of e30 c30_140 (rw_iconst (pc' := 141) rfl ?_)
                  refine wp_of e30 c30_141 (rw_iadd (pc' := 142) rfl ?_)
                  refine wp_of e30 c30_142 (xp_I (pc' := 145) lf_1_44 w235978 g1 sh_27 (by decide) (by decide) ty_27_10 rfl rfl (by omega) (by omega) ⟨by omega, by omega⟩ rfl (fun H235992 e235993 w235994 => ?_))
                  have f235995 := f235979.put' e235993 g1 rfl
                  have k235996 : H235992 r1 10 = (H235976 r1 10) + 1 := wq_u_s e235993
                  refine wp_of e30 c30_145 (rw_iconst (pc' := 146) rfl ?_)
                  have k235997 : H235992 r1 7 = H r1 7 := ((wq_u_j e235993 rfl).trans ((wq_u_t e235977 g235647 g1 rfl 7).trans ((f235971 r1 7 _ g1 rfl).trans ((wq_u_t e235703 g235647 g1 rfl 7).trans ((f235688 r1 7 _ g1 rfl).trans (f235672 r1 7 _ g1 rfl))))))
                  have k235998 : H235992 r1 8 = H r1 8 := ((wq_u_j e235993 rfl).trans ((wq_u_t e235977 g235647 g1 rfl 8).trans ((f235971 r1 8 _ g1 rfl).trans ((wq_u_t e235703 g235647 g1 rfl 8).trans ((f235688 r1 8 _ g1 rfl).trans (f235672 r1 8 _ g1 rfl))))))
                  have k235999 : H235992 r1 9 = H r1 9 := ((wq_u_j e235993 rfl).trans ((wq_u_t e235977 g235647 g1 rfl 9).trans ((f235971 r1 9 _ g1 rfl).trans ((wq_u_t e235703 g235647 g1 rfl 9).trans ((f235688 r1 9 _ g1 rfl).trans (f235672 r1 9 _ g1 rfl))))))
                  have k236000 : H235992 r1 11 = H r1 11 := ((wq_u_j e235993 rfl).trans ((wq_u_t e235977 g235647 g1 rfl 11).trans ((f235971 r1 11 _ g1 rfl).trans ((wq_u_t e235703 g235647 g1 rfl 11).trans ((f235688 r1 11 _ g1 rfl).trans (f235672 r1 11 _ g1 rfl))))))
                  have k236001 : H235992 r1 12 = H r1 12 := ((wq_u_j e235993 rfl).trans ((wq_u_t e235977 g235647 g1 rfl 12).trans ((f235971 r1 12 _ g1 rfl).trans ((wq_u_t e235703 g235647 g1 rfl 12).trans ((f235688 r1 12 _ g1 rfl).trans (f235672 r1 12 _ g1 rfl))))))
                  have k236002 : H235992 r1 13 = H r1 13 := ((wq_u_j e235993 rfl).trans ((wq_u_t e235977 g235647 g1 rfl 13).trans ((f235971 r1 13 _ g1 rfl).trans ((wq_u_t e235703 g235647 g1 rfl 13).trans ((f235688 r1 13 _ g1 rfl).trans (f235672 r1 13 _ g1 rfl))))))
                  have k236003 : H235992 r1 14 = H r1 14 := ((wq_u_j e235993 rfl).trans ((wq_u_t e235977 g235647 g1 rfl 14).trans ((f235971 r1 14 _ g1 rfl).trans ((wq_u_t e235703 g235647 g1 rfl 14).trans ((f235688 r1 14 _ g1 rfl).trans (f235672 r1 14 _ g1 rfl))))))
                  have k236004 : H235992 r1 15 = H r1 15 := ((wq_u_j e235993 rfl).trans ((wq_u_t e235977 g235647 g1 rfl 15).trans ((f235971 r1 15 _ g1 rfl).trans ((wq_u_t e235703 g235647 g1 rfl 15).trans ((f235688 r1 15 _ g1 rfl).trans (f235672 r1 15 _ g1 rfl))))))
                  have k236005 : H235992 r1 16 = H r1 16 := ((wq_u_j e235993 rfl).trans ((wq_u_t e235977 g235647 g1 rfl 16).trans ((f235971 r1 16 _ g1 rfl).trans ((wq_u_t e235703 g235647 g1 rfl 16).trans ((f235688 r1 16 _ g1 rfl).trans (f235672 r1 16 _ g1 rfl))))))
                  have k236006 : H235992 r235645 6 = H235976 r235645 6 := (wq_u_t e235993 g1 g235647 rfl 6)
                  have k236007 : H235992 r235645 7 = H235976 r235645 7 := (wq_u_t e235993 g1 g235647 rfl 7)
                  have k236008 : H235992 r235645 8 = H235976 r235645 8 := (wq_u_t e235993 g1 g235647 rfl 8)
                  have k236009 : H235992 r235645 9 = H235976 r235645 9 := (wq_u_t e235993 g1 g235647 rfl 9)
                  have k236010 : H235992 r235645 10 = H235976 r235645 10 := (wq_u_t e235993 g1 g235647 rfl 10)
                  have k236011 : H235992 r235645 11 = H235976 r235645 11 := (wq_u_t e235993 g1 g235647 rfl 11)
                  have k236012 : H235992 r235645 12 = H235976 r235645 12 := (wq_u_t e235993 g1 g235647 rfl 12)
                  have k236013 : H235992 r235645 13 = H235976 r235645 13 := (wq_u_t e235993 g1 g235647 rfl 13)
                  have k236014 : H235992 r235645 14 = H235976 r235645 14 := (wq_u_t e235993 g1 g235647 rfl 14)
                  have o236015 : (xcs B n q) = (0, q, (xN B n ((xN B n ((xN B n q)))))) := by
                    unfold xcs xca xcb
                    try rw [_ea]
                    try rw [_eb]
                    try rw [_ec]
                    repeat first | rw [xs_0 (by omega)] | rw [xs_1 (by omega)] | rw [if_pos (by omega)] | rw [if_neg (by omega)]
                    first | done | rfl | assumption | (exfalso; omega) | (refine Prod.ext ?_ (Prod.ext ?_ ?_) <;> (try dsimp only) <;> omega)
                  have o236015a : ((xcs B n q)).1 = 0 := by rw [o236015]
                  have o236015b : ((xcs B n q)).2.1 = q := by rw [o236015]
                  have o236015c : ((xcs B n q)).2.2 = (xN B n ((xN B n ((xN B n q))))) := by rw [o236015]
                  have _l := @xdper_v B n y d
                  have _k := @xdper_k (H r1 10).toNat d B n y (by omega)
                  rw [← p1] at _k
                  rw [_ea, _eb] at _k
                  have _f : H235992 r235645 6 = xdper B n y d 1 (H r1 10).toNat ∧ H235992 r235645 7 = xdper B n y d 2 (H r1 10).toNat ∧ H235992 r235645 8 = xdper B n y d 3 (H r1 10).toNat ∧ H235992 r235645 9 = xdper B n y d 4 (H r1 10).toNat ∧ H235992 r235645 10 = xdper B n y d 5 (H r1 10).toNat ∧ H235992 r235645 11 = xdper B n y d 6 (H r1 10).toNat ∧ H235992 r235645 12 = xhs (xdper B n y d 7 (H r1 10).toNat) (xdper B n y d 8 (H r1 10).toNat) ∧ H235992 r235645 13 = xdper B n y d 9 (H r1 10).toNat ∧ H235992 r235645 14 = 0 := ⟨by omega, by omega, by omega, by omega, by omega, by omega, by rw [_k.2.2.2.2.2.2.1, _k.2.2.2.2.2.2.2.1]; omega, by omega, by omega⟩
                  have h236016 : TC T H235992 tk B n (xN B n ((xN B n ((xN B n q))))) := (TC_fr w235978 gtk ((wfr.rf (l := [(27, 10)])).put' e235993 g1 rfl) rfl (TC_fr w235970 gtk ((wfr.rf (l := [(35, 13)])).put' e235977 g235647 rfl) rfl p235972))
                  have k236017 : H235992 r1 0 = H r1 0 := ((wq_u_j e235993 rfl).trans ((wq_u_t e235977 g235647 g1 rfl 0).trans ((f235971 r1 0 _ g1 rfl).trans ((wq_u_t e235703 g235647 g1 rfl 0).trans ((f235688 r1 0 _ g1 rfl).trans (f235672 r1 0 _ g1 rfl))))))
                  have q236018 : H235992 r1 0 = (r235640 : Int) := k236017.trans q235641
                  have k236019 : H235992 r235640 ((H r1 10).toNat) = H r235640 ((H r1 10).toNat) := ((wq_u_t e235993 g1 g235642 rfl ((H r1 10).toNat)).trans ((wq_u_t e235977 g235647 g235642 rfl ((H r1 10).toNat)).trans ((f235971 r235640 ((H r1 10).toNat) _ g235642 rfl).trans ((wq_u_t e235703 g235647 g235642 rfl ((H r1 10).toNat)).trans ((f235688 r235640 ((H r1 10).toNat) _ g235642 rfl).trans (f235672 r235640 ((H r1 10).toNat) _ g235642 rfl))))))
                  have q236020 : H235992 r235640 ((H r1 10).toNat) = (r235645 : Int) := k236019.trans q235646
                  have h236021 : ST T H235992 r1 (d 13) := (ST_fr w235978 g1 ((wfr.rf (l := [(27, 10)])).put' e235993 g1 rfl) rfl (ST_fr w235970 g1 ((wfr.rf (l := [(35, 13)])).put' e235977 g235647 rfl) rfl (ST_fr w235704 g1 f235971 rfl (ST_fr w235687 g1 ((wfr.rf (l := [(35, 11)])).put' e235703 g235647 rfl) rfl (ST_fr w235671 g1 f235688 rfl (ST_fr hW g1 f235672 rfl h235634))))))
                  have h236022 : SV T H235992 r1 (d 13) 24 := (SV_fr w235978 g1 ((wfr.rf (l := [(27, 10)])).put' e235993 g1 rfl) rfl (SV_fr w235970 g1 ((wfr.rf (l := [(35, 13)])).put' e235977 g235647 rfl) rfl (SV_fr w235704 g1 f235971 rfl (SV_fr w235687 g1 ((wfr.rf (l := [(35, 11)])).put' e235703 g235647 rfl) rfl (SV_fr w235671 g1 f235688 rfl (SV_fr hW g1 f235672 rfl h235635))))))
                  have h236023 : DA3 T H235992 r1 (d 0 5) (d 12) := (DA3_fr w235978 g1 ((wfr.rf (l := [(27, 10)])).put' e235993 g1 rfl) rfl (DA3_fr w235970 g1 ((wfr.rf (l := [(35, 13)])).put' e235977 g235647 rfl) rfl (DA3_fr w235704 g1 f235971 rfl (DA3_fr w235687 g1 ((wfr.rf (l := [(35, 11)])).put' e235703 g235647 rfl) rfl (DA3_fr w235671 g1 f235688 rfl (DA3_fr hW g1 f235672 rfl h235636))))))
                  have h236024 : DA4 T H235992 r1 (d 0 6) (d 14) := (DA4_fr w235978 g1 ((wfr.rf (l := [(27, 10)])).put' e235993 g1 rfl) rfl (DA4_fr w235970 g1 ((wfr.rf (l := [(35, 13)])).put' e235977 g235647 rfl) rfl (DA4_fr w235704 g1 f235971 rfl (DA4_fr w235687 g1 ((wfr.rf (l := [(35, 11)])).put' e235703 g235647 rfl) rfl (DA4_fr w235671 g1 f235688 rfl (DA4_fr hW g1 f235672 rfl h235637))))))
                  have h236025 : DA5 T H235992 r1 (d 0 6) (d 15) := (DA5_fr w235978 g1 ((wfr.rf (l := [(27, 10)])).put' e235993 g1 rfl) rfl (DA5_fr w235970 g1 ((wfr.rf (l := [(35, 13)])).put' e235977 g235647 rfl) rfl (DA5_fr w235704 g1 f235971 rfl (DA5_fr w235687 g1 ((wfr.rf (l := [(35, 11)])).put' e235703 g235647 rfl) rfl (DA5_fr w235671 g1 f235688 rfl (DA5_fr hW g1 f235672 rfl h235638))))))
                  have h236026 : DA6 T H235992 r1 (d 0 7) (d 16) := (DA6_fr w235978 g1 ((wfr.rf (l := [(27, 10)])).put' e235993 g1 rfl) rfl (DA6_fr w235970 g1 ((wfr.rf (l := [(35, 13)])).put' e235977 g235647 rfl) rfl (DA6_fr w235704 g1 f235971 rfl (DA6_fr w235687 g1 ((wfr.rf (l := [(35, 11)])).put' e235703 g235647 rfl) rfl (DA6_fr w235671 g1 f235688 rfl (DA6_fr hW g1 f235672 rfl h235639))))))
                  exact wp_zreturn e30 c30_146 rfl (by omega) ⟨rfl, w235994, f235995, 1, rfl, ⟨by omega, by omega⟩, (Or.inl ⟨by omega, by omega, by omega, by rw [o236015]; exact h236016, DC_mk ⟨by omega, by omega, by omega, by omega, by omega, by omega, by omega, by omega, by omega, by omega, by omega, by omega, by omega, by omega, by omega, by omega⟩ (DQ_per g235647 (DQ_oth hW g1 f235995 rfl hDD_r1 q236018 q236020 (by omega) (by omega) (fun a ha ga => ((wq_u_tf e235993 g1 ga (by decide)).trans ((wq_u_nf e235977 ha).trans ((f235971.fn ga rfl).trans ((wq_u_nf e235703 ha).trans ((f235688.fn ga rfl).trans (f235672.fn ga rfl))))))) hDC_r1.2.1) (by omega) q236018 q236020 (k := (H r1 10).toNat) (by omega) _f) h236021 h236022 h236023 h236024 h236025 h236026 ⟨rfl, rfl, rfl, rfl, rfl⟩ ⟨by omega, by omega, by omega⟩⟩)⟩
              · show wp _ _ 30 120 [(2, .ref r235645), (0, .ref r0), (1, .ref r1)] [vI z235951] _ H235702 _
                refine wp_of e30 c30_120 (rw_if_eq (p1 := 135) (p2 := 123) (by decide) rfl ⟨by omega, by omega⟩ (fun c236027 => ?_) (fun c236027 => ?_))
                · have _ec : xqc B n ((xN B n ((xN B n q)))) = ((xN B n ((xN B n q)))) := by
                    unfold xqc
                    first | rw [if_pos (by omega)] | rw [if_neg (by omega)]
                  have _ew : xaw B n ((xN B n ((xN B n q)))) = H235702 r235645 13 := by
                    unfold xaw
                    first | (rw [if_pos (by omega)]; omega) | (rw [if_neg (by omega)]; omega)
                  refine wp_of e30 c30_135 (rw_aload_n (pc' := 136) (v := .ref r1) rfl rfl rfl ?_)
                  refine wp_of e30 c30_136 (rw_dup (pc' := 137) rfl rfl ?_)
                  have k236028 : H235702 r1 10 = H r1 10 := ((wq_u_t e235703 g235647 g1 rfl 10).trans ((f235688 r1 10 _ g1 rfl).trans (f235672 r1 10 _ g1 rfl)))
                  refine wp_of e30 c30_137 (xg_I (pc' := 140) lf_1_44 w235704 g1 sh_27 (by decide) (by decide) ty_27_10 rfl rfl (fun b236029 b236030 => ?_))
                  refine wp_of e30 c30_140 (rw_iconst (pc' := 141) rfl ?_)
                  refine wp_of e30 c30_141 (rw_iadd (pc' := 142) rfl ?_)
                  refine wp_of e30 c30_142 (xp_I (pc' := 145) lf_1_44 w235704 g1 sh_27 (by decide) (by decide) ty_27_10 rfl rfl (by omega) (by omega) ⟨by omega, by omega⟩ rfl (fun H236031 e236032 w236033 => ?_))
                  have f236034 := f235705.put' e236032 g1 rfl
                  have k236035 : H236031 r1 10 = (H235702 r1 10) + 1 := wq_u_s e236032
                  refine wp_of e30 c30_145 (rw_iconst (pc' := 146) rfl ?_)
                  have k236036 : H236031 r1 7 = H r1 7 := ((wq_u_j e236032 rfl).trans ((wq_u_t e235703 g235647 g1 rfl 7).trans ((f235688 r1 7 _ g1 rfl).trans (f235672 r1 7 _ g1 rfl))))
                  have k236037 : H236031 r1 8 = H r1 8 := ((wq_u_j e236032 rfl).trans ((wq_u_t e235703 g235647 g1 rfl 8).trans ((f235688 r1 8 _ g1 rfl).trans (f235672 r1 8 _ g1 rfl))))
                  have k236038 : H236031 r1 9 = H r1 9 := ((wq_u_j e236032 rfl).trans ((wq_u_t e235703 g235647 g1 rfl 9).trans ((f235688 r1 9 _ g1 rfl).trans (f235672 r1 9 _ g1 rfl))))
                  have k236039 : H236031 r1 11 = H r1 11 := ((wq_u_j e236032 rfl).trans ((wq_u_t e235703 g235647 g1 rfl 11).trans ((f235688 r1 11 _ g1 rfl).trans (f235672 r1 11 _ g1 rfl))))
                  have k236040 : H236031 r1 12 = H r1 12 := ((wq_u_j e236032 rfl).trans ((wq_u_t e235703 g235647 g1 rfl 12).trans ((f235688 r1 12 _ g1 rfl).trans (f235672 r1 12 _ g1 rfl))))
                  have k236041 : H236031 r1 13 = H r1 13 := ((wq_u_j e236032 rfl).trans ((wq_u_t e235703 g235647 g1 rfl 13).trans ((f235688 r1 13 _ g1 rfl).trans (f235672 r1 13 _ g1 rfl))))
                  have k236042 : H236031 r1 14 = H r1 14 := ((wq_u_j e236032 rfl).trans ((wq_u_t e235703 g235647 g1 rfl 14).trans ((f235688 r1 14 _ g1 rfl).trans (f235672 r1 14 _ g1 rfl))))
                  have k236043 : H236031 r1 15 = H r1 15 := ((wq_u_j e236032 rfl).trans ((wq_u_t e235703 g235647 g1 rfl 15).trans ((f235688 r1 15 _ g1 rfl).trans (f235672 r1 15 _ g1 rfl))))
                  have k236044 : H236031 r1 16 = H r1 16 := ((wq_u_j e236032 rfl).trans ((wq_u_t e235703 g235647 g1 rfl 16).trans ((f235688 r1 16 _ g1 rfl).trans (f235672 r1 16 _ g1 rfl))))
                  have k236045 : H236031 r235645 6 = H235702 r235645 6 := (wq_u_t e236032 g1 g235647 rfl 6)
                  have k236046 : H236031 r235645 7 = H235702 r235645 7 := (wq_u_t e236032 g1 g235647 rfl 7)
                  have k236047 : H236031 r235645 8 = H235702 r235645 8 := (wq_u_t e236032 g1 g235647 rfl 8)
                  have k236048 : H236031 r235645 9 = H235702 r235645 9 := (wq_u_t e236032 g1 g235647 rfl 9)
                  have k236049 : H236031 r235645 10 = H235702 r235645 10 := (wq_u_t e236032 g1 g235647 rfl 10)
                  have k236050 : H236031 r235645 11 = H235702 r235645 11 := (wq_u_t e236032 g1 g235647 rfl 11)
                  have k236051 : H236031 r235645 12 = H235702 r235645 12 := (wq_u_t e236032 g1 g235647 rfl 12)
                  have k236052 : H236031 r235645 13 = H235702 r235645 13 := (wq_u_t e236032 g1 g235647 rfl 13)
                  have k236053 : H236031 r235645 14 = H235702 r235645 14 := (wq_u_t e236032 g1 g235647 rfl 14)
                  have o236054 : (xcs B n q) = (0, q, (xN B n ((xN B n q)))) := by
                    unfold xcs xca xcb
                    try rw [_ea]
                    try rw [_eb]
                    try rw [_ec]
                    repeat first | rw [xs_0 (by omega)] | rw [xs_1 (by omega)] | rw [if_pos (by omega)] | rw [if_neg (by omega)]
                    first | done | rfl | assumption | (exfalso; omega) | (refine Prod.ext ?_ (Prod.ext ?_ ?_) <;> (try dsimp only) <;> omega)
                  have o236054a : ((xcs B n q)).1 = 0 := by rw [o236054]
                  have o236054b : ((xcs B n q)).2.1 = q := by rw [o236054]
                  have o236054c : ((xcs B n q)).2.2 = (xN B n ((xN B n q))) := by rw [o236054]
                  have _l := @xdper_v B n y d
                  have _k := @xdper_k (H r1 10).toNat d B n y (by omega)
                  rw [← p1] at _k
                  rw [_ea, _eb] at _k
                  have _f : H236031 r235645 6 = xdper B n y d 1 (H r1 10).toNat ∧ H236031 r235645 7 = xdper B n y d 2 (H r1 10).toNat ∧ H236031 r235645 8 = xdper B n y d 3 (H r1 10).toNat ∧ H236031 r235645 9 = xdper B n y d 4 (H r1 10).toNat ∧ H236031 r235645 10 = xdper B n y d 5 (H r1 10).toNat ∧ H236031 r235645 11 = xdper B n y d 6 (H r1 10).toNat ∧ H236031 r235645 12 = xhs (xdper B n y d 7 (H r1 10).toNat) (xdper B n y d 8 (H r1 10).toNat) ∧ H236031 r235645 13 = xdper B n y d 9 (H r1 10).toNat ∧ H236031 r235645 14 = 0 := ⟨by omega, by omega, by omega, by omega, by omega, by omega, by rw [_k.2.2.2.2.2.2.1, _k.2.2.2.2.2.2.2.1]; omega, by omega, by omega⟩
                  have h236055 : TC T H236031 tk B n (xN B n ((xN B n q))) := (TC_fr w235704 gtk ((wfr.rf (l := [(27, 10)])).put' e236032 g1 rfl) rfl h235721)
                  have k236056 : H236031 r1 0 = H r1 0 := ((wq_u_j e236032 rfl).trans ((wq_u_t e235703 g235647 g1 rfl 0).trans ((f235688 r1 0 _ g1 rfl).trans (f235672 r1 0 _ g1 rfl))))
                  have q236057 : H236031 r1 0 = (r235640 : Int) := k236056.trans q235641
                  have k236058 : H236031 r235640 ((H r1 10).toNat) = H r235640 ((H r1 10).toNat) := ((wq_u_t e236032 g1 g235642 rfl ((H r1 10).toNat)).trans ((wq_u_t e235703 g235647 g235642 rfl ((H r1 10).toNat)).trans ((f235688 r235640 ((H r1 10).toNat) _ g235642 rfl).trans (f235672 r235640 ((H r1 10).toNat) _ g235642 rfl))))
                  have q236059 : H236031 r235640 ((H r1 10).toNat) = (r235645 : Int) := k236058.trans q235646
                  have h236060 : ST T H236031 r1 (d 13) := (ST_fr w235704 g1 ((wfr.rf (l := [(27, 10)])).put' e236032 g1 rfl) rfl (ST_fr w235687 g1 ((wfr.rf (l := [(35, 11)])).put' e235703 g235647 rfl) rfl (ST_fr w235671 g1 f235688 rfl (ST_fr hW g1 f235672 rfl h235634))))
                  have h236061 : SV T H236031 r1 (d 13) 24 := (SV_fr w235704 g1 ((wfr.rf (l := [(27, 10)])).put' e236032 g1 rfl) rfl (SV_fr w235687 g1 ((wfr.rf (l := [(35, 11)])).put' e235703 g235647 rfl) rfl (SV_fr w235671 g1 f235688 rfl (SV_fr hW g1 f235672 rfl h235635))))
                  have h236062 : DA3 T H236031 r1 (d 0 5) (d 12) := (DA3_fr w235704 g1 ((wfr.rf (l := [(27, 10)])).put' e236032 g1 rfl) rfl (DA3_fr w235687 g1 ((wfr.rf (l := [(35, 11)])).put' e235703 g235647 rfl) rfl (DA3_fr w235671 g1 f235688 rfl (DA3_fr hW g1 f235672 rfl h235636))))
                  have h236063 : DA4 T H236031 r1 (d 0 6) (d 14) := (DA4_fr w235704 g1 ((wfr.rf (l := [(27, 10)])).put' e236032 g1 rfl) rfl (DA4_fr w235687 g1 ((wfr.rf (l := [(35, 11)])).put' e235703 g235647 rfl) rfl (DA4_fr w235671 g1 f235688 rfl (DA4_fr hW g1 f235672 rfl h235637))))
                  have h236064 : DA5 T H236031 r1 (d 0 6) (d 15) := (DA5_fr w235704 g1 ((wfr.rf (l := [(27, 10)])).put' e236032 g1 rfl) rfl (DA5_fr w235687 g1 ((wfr.rf (l := [(35, 11)])).put' e235703 g235647 rfl) rfl (DA5_fr w235671 g1 f235688 rfl (DA5_fr hW g1 f235672 rfl h235638))))
                  have h236065 : DA6 T H236031 r1 (d 0 7) (d 16) := (DA6_fr w235704 g1 ((wfr.rf (l := [(27, 10)])).put' e236032 g1 rfl) rfl (DA6_fr w235687 g1 ((wfr.rf (l := [(35, 11)])).put' e235703 g235647 rfl) rfl (DA6_fr w235671 g1 f235688 rfl (DA6_fr hW g1 f235672 rfl h235639))))
                  exact wp_zreturn e30 c30_146 rfl (by omega) ⟨rfl, w236033, f236034, 1, rfl, ⟨by omega, by omega⟩, (Or.inl ⟨by omega, by omega, by omega, by rw [o236054]; exact h236055, DC_mk ⟨by omega, by omega, by omega, by omega, by omega, by omega, by omega, by omega, by omega, by omega, by omega, by omega, by omega, by omega, by omega, by omega⟩ (DQ_per g235647 (DQ_oth hW g1 f236034 rfl hDD_r1 q236057 q236059 (by omega) (by omega) (fun a ha ga => ((wq_u_tf e236032 g1 ga (by decide)).trans ((wq_u_nf e235703 ha).trans ((f235688.fn ga rfl).trans (f235672.fn ga rfl))))) hDC_r1.2.1) (by omega) q236057 q236059 (k := (H r1 10).toNat) (by omega) _f) h236060 h236061 h236062 h236063 h236064 h236065 ⟨rfl, rfl, rfl, rfl, rfl⟩ ⟨by omega, by omega, by omega⟩⟩)⟩
                · exfalso
                  omega
            · exfalso
              omega
        · exfalso
          omega
      · have f236066 := f235675.tr f235688 rfl
        show wp _ _ 30 41 [(2, .ref r235645), (0, .ref r0), (1, .ref r1)] [vI z235689, .ref r235645] _ H235683 _
        refine wp_of e30 c30_41 (xp_I (pc' := 44) lf_1_188 w235687 g235647 sh_35 (by decide) (by decide) ty_35_11 rfl rfl (by omega) (by omega) ⟨by omega, by omega⟩ rfl (fun H236067 e236068 w236069 => ?_))
        have f236070 := f236066.put' e236068 g235647 rfl
        have k236071 : H236067 r235645 11 = z235689 := wq_u_s e236068
        refine wp_of e30 c30_44 (rw_aload_n (pc' := 45) (v := .ref r235645) rfl rfl rfl ?_)
        refine wp_of e30 c30_45 (xg_I (pc' := 48) lf_1_188 w236069 g235647 sh_35 (by decide) (by decide) ty_35_11 rfl rfl (fun b236072 b236073 => ?_))
        refine wp_of e30 c30_48 (rw_if_ge (p1 := 53) (p2 := 51) (by decide) rfl ⟨by omega, by omega⟩ (fun c236074 => ?_) (fun c236074 => ?_))
        · exfalso
          omega
        · refine wp_of e30 c30_51 (rw_iconst (pc' := 52) rfl ?_)
          have k236075 : H236067 r0 3 = H235683 r0 3 := (wq_u_t e236068 g235647 g0 rfl 3)
          have k236076 : H236067 r0 4 = H235683 r0 4 := (wq_u_t e236068 g235647 g0 rfl 4)
          have o236077 : (xcs B n q) = (xh B n ((xN B n q)) 0 23, ((xN B n q)), ((xN B n q))) := by
            unfold xcs xca xcb
            try rw [_ea]
            try rw [_eb]
            try rw [_ec]
            repeat first | rw [xs_0 (by omega)] | rw [xs_1 (by omega)] | rw [if_pos (by omega)] | rw [if_neg (by omega)]
            first | done | rfl | assumption | (exfalso; omega) | (refine Prod.ext ?_ (Prod.ext ?_ ?_) <;> (try dsimp only) <;> omega)
          have o236077a : ((xcs B n q)).1 = xh B n ((xN B n q)) 0 23 := by rw [o236077]
          have o236077b : ((xcs B n q)).2.1 = ((xN B n q)) := by rw [o236077]
          have o236077c : ((xcs B n q)).2.2 = ((xN B n q)) := by rw [o236077]
          exact wp_zreturn e30 c30_52 rfl (by omega) ⟨rfl, w236069, f236070, 0, rfl, ⟨by omega, by omega⟩, (Or.inr ⟨by omega, by omega, by omega, by omega, by omega⟩)⟩
  · show wp _ _ 30 23 [(2, .ref r235645), (0, .ref r0), (1, .ref r1)] [vI z235656] _ H _
    refine wp_of e30 c30_23 (rw_if_eq (p1 := 53) (p2 := 26) (by decide) rfl ⟨by omega, by omega⟩ (fun c236078 => ?_) (fun c236078 => ?_))
    · have _ea : xqa B n q = q := by
        unfold xqa
        first | rw [if_pos (by omega)] | rw [if_neg (by omega)]
      have _eh : xhb B n q = H r235645 11 := by
        unfold xhb
        first | (rw [if_pos (by omega)]; omega) | (rw [if_neg (by omega)]; omega)
      refine wp_of e30 c30_53 (rw_aload_n (pc' := 54) (v := .ref r0) rfl rfl rfl ?_)
      refine wp_of e30 c30_54 (xg_K (pc' := 57) lf_1_12 hW g0 sh_3 (by decide) (by decide) rfl qtk rfl ?_)
      refine wp_of e30 c30_57 (rw_gs (pc' := 60) (k := 25) rfl rfl rfl rfl ?_)
      have k236079 : H 25 0 = ((41 : Nat) : Int) := (hW.2 25 _ (hW.1.2.2 9 (by decide))).2.2 0 (by decide) |> fun z => by have z1 : (41 : Int) ≤ H 25 0 ∧ H 25 0 ≤ 41 := z; omega
      refine wp_of e30 c30_60 (rw_getR (pc' := 63) (n := 2) (b := 41) (e := _) (lf_1_181).choose_spec.1 (lf_1_181).choose_spec.2.1 (hW.sh (hW.1.2.2 9 (by decide)) rfl) (by decide) rfl k236079 rfl ?_)
      refine wp_of e30 c30_63 (xc_V (pc' := 66) (r := tk) (as := [.ref 41]) (st := []) (lm_1_185) rfl rfl (Nat.le_of_ble_eq_true rfl) hW gtk sh_4 (by decide) rfl (by decide) (u_19_t (B := B) (n := n) (q := q) (kk := 14384) hW gtk rfl (by decide +kernel) hTC_tk) (fun R236080 T236081 H236082 p236083 => ?_))
      obtain ⟨e236084, e236086, z236087, e236085, b236088, p236089⟩ := p236083
      subst e236084
      subst e236085
      subst e236086
      rcases p236089 with ⟨a236090, a236091⟩ | ⟨a236092, a236093⟩
      · show wp _ _ 30 66 [(2, .ref r235645), (0, .ref r0), (1, .ref r1)] [vI z236087] _ H _
        refine wp_of e30 c30_66 (rw_if_eq (p1 := 107) (p2 := 69) (by decide) rfl ⟨by omega, by omega⟩ (fun c236094 => ?_) (fun c236094 => ?_))
        · exfalso
          omega
        · refine wp_of e30 c30_69 (rw_aload_n (pc' := 70) (v := .ref r0) rfl rfl rfl ?_)
          refine wp_of e30 c30_70 (xg_K (pc' := 73) lf_1_12 hW g0 sh_3 (by decide) (by decide) rfl qtk rfl ?_)
          have h236095 : TP T H rb B := TC_tp hTC_tk qrb
          refine wp_of e30 c30_73 (xc_V (pc' := 76) (r := tk) (as := []) (st := []) (lm_1_74) rfl rfl (Nat.le_of_ble_eq_true rfl) hW gtk sh_4 (by decide) rfl (by decide) (u_16 (B := B) (n := n) (a := (xE B n q)) (q := (xN B n q)) hW gtk qrb grb (by omega) (by omega) (by omega) (rfl) h236095) (fun R236096 T236097 H236098 p236099 => ?_))
          obtain ⟨e236100, w236102, f236103, e236101, p236104⟩ := p236099
          subst e236100
          subst e236101
          have f236106 := f0.tr f236103 rfl
          show wp _ _ 30 76 [(2, .ref r235645), (0, .ref r0), (1, .ref r1)] [] _ H236098 _
          have u236107 := TC_k p236104
          refine wp_of e30 c30_76 (rw_aload_n (pc' := 77) (v := .ref r0) rfl rfl rfl ?_)
          refine wp_of e30 c30_77 (rw_bipush (pc' := 79) (z := 23) rfl (by decide) ?_)
          refine wp_of e30 c30_79 (rw_iconst (pc' := 80) rfl ?_)
          refine wp_of e30 c30_80 (rw_bipush (pc' := 82) (z := 24) rfl (by decide) ?_)
          refine wp_of e30 c30_82 (rw_bipush (pc' := 84) (z := 24) rfl (by decide) ?_)
          have k236108 : H236098 r0 0 = H r0 0 := (f236103 r0 0 _ g0 rfl)
          have q236109 : H236098 r0 0 = (tk : Int) := k236108.trans qtk
          have k236110 : H236098 tk 0 = H tk 0 := (f236103 tk 0 _ gtk rfl)
          have q236111 : H236098 tk 0 = (rb : Int) := k236110.trans qrb
          refine wp_of e30 c30_84 (xc_V (pc' := 87) (r := r0) (as := [vI 23, vI 1, vI 24, vI 24]) (st := []) (lm_1_154) rfl rfl (Nat.le_of_ble_eq_true rfl) w236102 g0 sh_3 (by decide) rfl (by decide) (u_29 (B := B) (n := n) (q := ((xN B n q))) w236102 g0 ⟨by omega, by omega⟩ ⟨by omega, by omega⟩ ⟨by omega, by omega⟩ ⟨by omega, by omega⟩ q236109 gtk q236111 grb p236104) (fun R236112 T236113 H236114 p236115 => ?_))
          obtain ⟨e236116, w236118, f236119, z236120, e236117, b236121, p236122⟩ := p236115
          subst e236116
          subst e236117
          rcases p236122 with ⟨a236123, a236124, a236125, a236126, a236127, a236128, a236129, a236130⟩ | ⟨a236131, a236132, a236133, a236134, a236135⟩
          · have f236136 := f236106.tr f236119 rfl
            show wp _ _ 30 87 [(2, .ref r235645), (0, .ref r0), (1, .ref r1)] [vI z236120] _ H236114 _
            have u236137 := TC_k a236130
            refine wp_of e30 c30_87 (rw_if_ne (p1 := 92) (p2 := 90) (by decide) rfl ⟨by omega, by omega⟩ (fun c236138 => ?_) (fun c236138 => ?_))
            · refine wp_of e30 c30_92 (rw_aload_n (pc' := 93) (v := .ref r235645) rfl rfl rfl ?_)
              refine wp_of e30 c30_93 (rw_aload_n (pc' := 94) (v := .ref r0) rfl rfl rfl ?_)
              refine wp_of e30 c30_94 (xg_I (pc' := 97) lf_1_158 w236118 g0 sh_3 (by decide) (by decide) ty_3_1 rfl rfl (fun b236139 b236140 => ?_))
              refine wp_of e30 c30_97 (rw_aload_n (pc' := 98) (v := .ref r0) rfl rfl rfl ?_)
              refine wp_of e30 c30_98 (xg_I (pc' := 101) lf_1_164 w236118 g0 sh_3 (by decide) (by decide) ty_3_2 rfl rfl (fun b236141 b236142 => ?_))
              refine wp_of e30 c30_101 (xc_S (pc' := 104) (as := [vI (H236114 r0 1), vI (H236114 r0 2)]) (st := [.ref r235645]) (lm_1_194) rfl rfl (Nat.le_of_ble_eq_true rfl) rfl (by decide) (u_31 (lo := (xV B n (xN B n q))) (hi := (xV B n (xN B n (xN B n (xN B n q))))) w236118 ⟨by omega, by omega⟩ ⟨by omega, by omega⟩ (by omega) (by omega) (by omega)) (fun R236143 T236144 H236145 p236146 => ?_))
              obtain ⟨e236147, e236149, z236150, e236148, b236151, p236152⟩ := p236146
              subst e236147
              subst e236148
              subst e236149
              show wp _ _ 30 104 [(2, .ref r235645), (0, .ref r0), (1, .ref r1)] [vI z236150, .ref r235645] _ H236114 _
              refine wp_of e30 c30_104 (xp_I (pc' := 107) lf_1_197 w236118 g235647 sh_35 (by decide) (by decide) ty_35_12 rfl rfl (by omega) (by omega) ⟨by omega, by omega⟩ rfl (fun H236154 e236155 w236156 => ?_))
              have f236157 := f236136.put' e236155 g235647 rfl
              have k236158 : H236154 r235645 12 = z236150 := wq_u_s e236155
              have _eb : xqb B n q = ((xN B n (xN B n (xN B n ((xN B n q)))))) := by
                unfold xqb
                first | rw [if_pos (by omega)] | rw [if_neg (by omega)]
              have k236159 : H236154 r235645 6 = H r235645 6 := ((wq_u_j e236155 rfl).trans ((f236119 r235645 6 _ g235647 rfl).trans (f236103 r235645 6 _ g235647 rfl)))
              have k236160 : H236154 r235645 7 = H r235645 7 := ((wq_u_j e236155 rfl).trans ((f236119 r235645 7 _ g235647 rfl).trans (f236103 r235645 7 _ g235647 rfl)))
              have k236161 : H236154 r235645 8 = H r235645 8 := ((wq_u_j e236155 rfl).trans ((f236119 r235645 8 _ g235647 rfl).trans (f236103 r235645 8 _ g235647 rfl)))
              have k236162 : H236154 r235645 9 = H r235645 9 := ((wq_u_j e236155 rfl).trans ((f236119 r235645 9 _ g235647 rfl).trans (f236103 r235645 9 _ g235647 rfl)))
              have k236163 : H236154 r235645 10 = H r235645 10 := ((wq_u_j e236155 rfl).trans ((f236119 r235645 10 _ g235647 rfl).trans (f236103 r235645 10 _ g235647 rfl)))
              have k236164 : H236154 r235645 11 = H r235645 11 := ((wq_u_j e236155 rfl).trans ((f236119 r235645 11 _ g235647 rfl).trans (f236103 r235645 11 _ g235647 rfl)))
              have k236165 : H236154 r235645 13 = H r235645 13 := ((wq_u_j e236155 rfl).trans ((f236119 r235645 13 _ g235647 rfl).trans (f236103 r235645 13 _ g235647 rfl)))
              have k236166 : H236154 r235645 14 = H r235645 14 := ((wq_u_j e236155 rfl).trans ((f236119 r235645 14 _ g235647 rfl).trans (f236103 r235645 14 _ g235647 rfl)))
              have _en : H236154 r235645 12 = xhs (xnf B n q) (xnt B n q) := by
                unfold xnf xnt
                first | (rw [if_pos (by omega), if_pos (by omega)]; omega) | (rw [if_neg (by omega), if_neg (by omega)]; omega)
              refine wp_of e30 c30_107 (rw_aload_n (pc' := 108) (v := .ref r0) rfl rfl rfl ?_)
              have k236167 : H236154 r0 0 = H236098 r0 0 := ((wq_u_t e236155 g235647 g0 rfl 0).trans (f236119 r0 0 _ g0 rfl))
              have q236168 : H236154 r0 0 = (tk : Int) := k236167.trans q236109
              refine wp_of e30 c30_108 (xg_K (pc' := 111) lf_1_12 w236156 g0 sh_3 (by decide) (by decide) rfl q236168 rfl ?_)
              refine wp_of e30 c30_111 (rw_gs (pc' := 114) (k := 26) rfl rfl rfl rfl ?_)
              have k236169 : H236154 26 0 = ((42 : Nat) : Int) := (w236156.2 26 _ (w236156.1.2.2 10 (by decide))).2.2 0 (by decide) |> fun z => by have z1 : (42 : Int) ≤ H236154 26 0 ∧ H236154 26 0 ≤ 42 := z; omega
              refine wp_of e30 c30_114 (rw_getR (pc' := 117) (n := 2) (b := 42) (e := _) (lf_1_181).choose_spec.1 (lf_1_181).choose_spec.2.1 (w236156.sh (w236156.1.2.2 10 (by decide)) rfl) (by decide) rfl k236169 rfl ?_)
              have h236170 : TC T H236154 tk B n (xN B n (xN B n (xN B n ((xN B n q))))) := (TC_fr w236118 gtk ((wfr.rf (l := [(35, 12)])).put' e236155 g235647 rfl) rfl a236130)
              refine wp_of e30 c30_117 (xc_V (pc' := 120) (r := tk) (as := [.ref 42]) (st := []) (lm_1_185) rfl rfl (Nat.le_of_ble_eq_true rfl) w236156 gtk sh_4 (by decide) rfl (by decide) (u_19_t (B := B) (n := n) (q := ((xN B n (xN B n (xN B n ((xN B n q))))))) (kk := 56377) w236156 gtk rfl (by decide +kernel) h236170) (fun R236171 T236172 H236173 p236174 => ?_))
              obtain ⟨e236175, e236177, z236178, e236176, b236179, p236180⟩ := p236174
              subst e236175
              subst e236176
              subst e236177
              rcases p236180 with ⟨a236181, a236182⟩ | ⟨a236183, a236184⟩
              · show wp _ _ 30 120 [(2, .ref r235645), (0, .ref r0), (1, .ref r1)] [vI z236178] _ H236154 _
                refine wp_of e30 c30_120 (rw_if_eq (p1 := 135) (p2 := 123) (by decide) rfl ⟨by omega, by omega⟩ (fun c236185 => ?_) (fun c236185 => ?_))
                · exfalso
                  omega
                · refine wp_of e30 c30_123 (rw_aload_n (pc' := 124) (v := .ref r0) rfl rfl rfl ?_)
                  refine wp_of e30 c30_124 (xg_K (pc' := 127) lf_1_12 w236156 g0 sh_3 (by decide) (by decide) rfl q236168 rfl ?_)
                  have k236186 : H236154 tk 0 = H236098 tk 0 := ((wq_u_t e236155 g235647 gtk rfl 0).trans (f236119 tk 0 _ gtk rfl))
                  have q236187 : H236154 tk 0 = (rb : Int) := k236186.trans q236111
                  have k236188 : H236154 tk 1 = H236114 tk 1 := (wq_u_t e236155 g235647 gtk rfl 1)
                  have k236189 : H236154 tk 2 = H236114 tk 2 := (wq_u_t e236155 g235647 gtk rfl 2)
                  have h236190 : TP T H236154 rb B := (TP_fr w236118 grb ((wfr.rf (l := [(35, 12)])).put' e236155 g235647 rfl) rfl (TP_fr w236102 grb f236119 rfl (TP_fr hW grb f236103 rfl h236095)))
                  refine wp_of e30 c30_127 (xc_V (pc' := 130) (r := tk) (as := []) (st := []) (lm_1_74) rfl rfl (Nat.le_of_ble_eq_true rfl) w236156 gtk sh_4 (by decide) rfl (by decide) (u_16 (B := B) (n := n) (a := (xE B n ((xN B n (xN B n (xN B n ((xN B n q)))))))) (q := (xN B n ((xN B n (xN B n (xN B n ((xN B n q)))))))) w236156 gtk q236187 grb (by omega) (by omega) (by omega) (rfl) h236190) (fun R236191 T236192 H236193 p236194 => ?_))
                  obtain ⟨e236195, w236197, f236198, e236196, p236199⟩ := p236194
                  subst e236195
                  subst e236196
                  have f236201 := f236157.tr f236198 rfl
                  show wp _ _ 30 130 [(2, .ref r235645), (0, .ref r0), (1, .ref r1)] [] _ H236193 _
                  have u236202 := TC_k p236199
                  refine wp_of e30 c30_130 (rw_aload_n (pc' := 131) (v := .ref r235645) rfl rfl rfl ?_)
                  refine wp_of e30 c30_131 (rw_iconst (pc' := 132) rfl ?_)
                  refine wp_of e30 c30_132 (xp_Z (pc' := 135) lf_1_203 w236197 g235647 sh_35 (by decide) (by decide) ty_35_13 rfl rfl (by omega) (by omega) rfl (fun H236203 e236204 w236205 => ?_))
                  have f236206 := f236201.put' e236204 g235647 rfl
                  have k236207 : H236203 r235645 13 = 1 := wq_u_s e236204
                  have _ec : xqc B n ((xN B n (xN B n (xN B n ((xN B n q)))))) = ((xN B n ((xN B n (xN B n (xN B n ((xN B n q)))))))) := by
                    unfold xqc
                    first | rw [if_pos (by omega)] | rw [if_neg (by omega)]
                  have k236208 : H236203 r235645 6 = H236154 r235645 6 := ((wq_u_j e236204 rfl).trans (f236198 r235645 6 _ g235647 rfl))
                  have k236209 : H236203 r235645 7 = H236154 r235645 7 := ((wq_u_j e236204 rfl).trans (f236198 r235645 7 _ g235647 rfl))
                  have k236210 : H236203 r235645 8 = H236154 r235645 8 := ((wq_u_j e236204 rfl).trans (f236198 r235645 8 _ g235647 rfl))
                  have k236211 : H236203 r235645 9 = H236154 r235645 9 := ((wq_u_j e236204 rfl).trans (f236198 r235645 9 _ g235647 rfl))
                  have k236212 : H236203 r235645 10 = H236154 r235645 10 := ((wq_u_j e236204 rfl).trans (f236198 r235645 10 _ g235647 rfl))
                  have k236213 : H236203 r235645 11 = H236154 r235645 11 := ((wq_u_j e236204 rfl).trans (f236198 r235645 11 _ g235647 rfl))
                  have k236214 : H236203 r235645 12 = H236154 r235645 12 := ((wq_u_j e236204 rfl).trans (f236198 r235645 12 _ g235647 rfl))
                  have k236215 : H236203 r235645 14 = H236154 r235645 14 := ((wq_u_j e236204 rfl).trans (f236198 r235645 14 _ g235647 rfl))
                  have _ew : xaw B n ((xN B n (xN B n (xN B n ((xN B n q)))))) = H236203 r235645 13 := by
                    unfold xaw
                    first | (rw [if_pos (by omega)]; omega) | (rw [if_neg (by omega)]; omega)
                  refine wp_of e30 c30_135 (rw_aload_n (pc' := 136) (v := .ref r1) rfl rfl rfl ?_)
                  refine wp_of e30 c30_136 (rw_dup (pc' := 137) rfl rfl ?_)
                  have k236216 : H236203 r1 10 = H r1 10 := ((wq_u_t e236204 g235647 g1 rfl 10).trans ((f236198 r1 10 _ g1 rfl).trans ((wq_u_t e236155 g235647 g1 rfl 10).trans ((f236119 r1 10 _ g1 rfl).trans (f236103 r1 10 _ g1 rfl)))))
                  refine wp_of e30 c30_137 (xg_I (pc' := 140) lf_1_44 w236205 g1 sh_27 (by decide) (by decide) ty_27_10 rfl rfl (fun b236217 b236218 => ?_))
                  refine wp_of e30 c30_140 (rw_iconst (pc' := 141) rfl ?_)
                  refine wp_of e30 c30_141 (rw_iadd (pc' := 142) rfl ?_)
                  refine wp_of e30 c30_142 (xp_I (pc' := 145) lf_1_44 w236205 g1 sh_27 (by decide) (by decide) ty_27_10 rfl rfl (by omega) (by omega) ⟨by omega, by omega⟩ rfl (fun H236219 e236220 w236221 => ?_))
                  have f236222 := f236206.put' e236220 g1 rfl
                  have k236223 : H236219 r1 10 = (H236203 r1 10) + 1 := wq_u_s e236220
                  refine wp_of e30 c30_145 (rw_iconst (pc' := 146) rfl ?_)
                  have k236224 : H236219 r1 7 = H r1 7 := ((wq_u_j e236220 rfl).trans ((wq_u_t e236204 g235647 g1 rfl 7).trans ((f236198 r1 7 _ g1 rfl).trans ((wq_u_t e236155 g235647 g1 rfl 7).trans ((f236119 r1 7 _ g1 rfl).trans (f236103 r1 7 _ g1 rfl))))))
                  have k236225 : H236219 r1 8 = H r1 8 := ((wq_u_j e236220 rfl).trans ((wq_u_t e236204 g235647 g1 rfl 8).trans ((f236198 r1 8 _ g1 rfl).trans ((wq_u_t e236155 g235647 g1 rfl 8).trans ((f236119 r1 8 _ g1 rfl).trans (f236103 r1 8 _ g1 rfl))))))
                  have k236226 : H236219 r1 9 = H r1 9 := ((wq_u_j e236220 rfl).trans ((wq_u_t e236204 g235647 g1 rfl 9).trans ((f236198 r1 9 _ g1 rfl).trans ((wq_u_t e236155 g235647 g1 rfl 9).trans ((f236119 r1 9 _ g1 rfl).trans (f236103 r1 9 _ g1 rfl))))))
                  have k236227 : H236219 r1 11 = H r1 11 := ((wq_u_j e236220 rfl).trans ((wq_u_t e236204 g235647 g1 rfl 11).trans ((f236198 r1 11 _ g1 rfl).trans ((wq_u_t e236155 g235647 g1 rfl 11).trans ((f236119 r1 11 _ g1 rfl).trans (f236103 r1 11 _ g1 rfl))))))
                  have k236228 : H236219 r1 12 = H r1 12 := ((wq_u_j e236220 rfl).trans ((wq_u_t e236204 g235647 g1 rfl 12).trans ((f236198 r1 12 _ g1 rfl).trans ((wq_u_t e236155 g235647 g1 rfl 12).trans ((f236119 r1 12 _ g1 rfl).trans (f236103 r1 12 _ g1 rfl))))))
                  have k236229 : H236219 r1 13 = H r1 13 := ((wq_u_j e236220 rfl).trans ((wq_u_t e236204 g235647 g1 rfl 13).trans ((f236198 r1 13 _ g1 rfl).trans ((wq_u_t e236155 g235647 g1 rfl 13).trans ((f236119 r1 13 _ g1 rfl).trans (f236103 r1 13 _ g1 rfl))))))
                  have k236230 : H236219 r1 14 = H r1 14 := ((wq_u_j e236220 rfl).trans ((wq_u_t e236204 g235647 g1 rfl 14).trans ((f236198 r1 14 _ g1 rfl).trans ((wq_u_t e236155 g235647 g1 rfl 14).trans ((f236119 r1 14 _ g1 rfl).trans (f236103 r1 14 _ g1 rfl))))))
                  have k236231 : H236219 r1 15 = H r1 15 := ((wq_u_j e236220 rfl).trans ((wq_u_t e236204 g235647 g1 rfl 15).trans ((f236198 r1 15 _ g1 rfl).trans ((wq_u_t e236155 g235647 g1 rfl 15).trans ((f236119 r1 15 _ g1 rfl).trans (f236103 r1 15 _ g1 rfl))))))
                  have k236232 : H236219 r1 16 = H r1 16 := ((wq_u_j e236220 rfl).trans ((wq_u_t e236204 g235647 g1 rfl 16).trans ((f236198 r1 16 _ g1 rfl).trans ((wq_u_t e236155 g235647 g1 rfl 16).trans ((f236119 r1 16 _ g1 rfl).trans (f236103 r1 16 _ g1 rfl))))))
                  have k236233 : H236219 r235645 6 = H236203 r235645 6 := (wq_u_t e236220 g1 g235647 rfl 6)
                  have k236234 : H236219 r235645 7 = H236203 r235645 7 := (wq_u_t e236220 g1 g235647 rfl 7)
                  have k236235 : H236219 r235645 8 = H236203 r235645 8 := (wq_u_t e236220 g1 g235647 rfl 8)
                  have k236236 : H236219 r235645 9 = H236203 r235645 9 := (wq_u_t e236220 g1 g235647 rfl 9)
                  have k236237 : H236219 r235645 10 = H236203 r235645 10 := (wq_u_t e236220 g1 g235647 rfl 10)
                  have k236238 : H236219 r235645 11 = H236203 r235645 11 := (wq_u_t e236220 g1 g235647 rfl 11)
                  have k236239 : H236219 r235645 12 = H236203 r235645 12 := (wq_u_t e236220 g1 g235647 rfl 12)
                  have k236240 : H236219 r235645 13 = H236203 r235645 13 := (wq_u_t e236220 g1 g235647 rfl 13)
                  have k236241 : H236219 r235645 14 = H236203 r235645 14 := (wq_u_t e236220 g1 g235647 rfl 14)
                  have o236242 : (xcs B n q) = (0, q, (xN B n ((xN B n (xN B n (xN B n ((xN B n q)))))))) := by
                    unfold xcs xca xcb
                    try rw [_ea]
                    try rw [_eb]
                    try rw [_ec]
                    repeat first | rw [xs_0 (by omega)] | rw [xs_1 (by omega)] | rw [if_pos (by omega)] | rw [if_neg (by omega)]
                    first | done | rfl | assumption | (exfalso; omega) | (refine Prod.ext ?_ (Prod.ext ?_ ?_) <;> (try dsimp only) <;> omega)
                  have o236242a : ((xcs B n q)).1 = 0 := by rw [o236242]
                  have o236242b : ((xcs B n q)).2.1 = q := by rw [o236242]
                  have o236242c : ((xcs B n q)).2.2 = (xN B n ((xN B n (xN B n (xN B n ((xN B n q))))))) := by rw [o236242]
                  have _l := @xdper_v B n y d
                  have _k := @xdper_k (H r1 10).toNat d B n y (by omega)
                  rw [← p1] at _k
                  rw [_ea, _eb] at _k
                  have _f : H236219 r235645 6 = xdper B n y d 1 (H r1 10).toNat ∧ H236219 r235645 7 = xdper B n y d 2 (H r1 10).toNat ∧ H236219 r235645 8 = xdper B n y d 3 (H r1 10).toNat ∧ H236219 r235645 9 = xdper B n y d 4 (H r1 10).toNat ∧ H236219 r235645 10 = xdper B n y d 5 (H r1 10).toNat ∧ H236219 r235645 11 = xdper B n y d 6 (H r1 10).toNat ∧ H236219 r235645 12 = xhs (xdper B n y d 7 (H r1 10).toNat) (xdper B n y d 8 (H r1 10).toNat) ∧ H236219 r235645 13 = xdper B n y d 9 (H r1 10).toNat ∧ H236219 r235645 14 = 0 := ⟨by omega, by omega, by omega, by omega, by omega, by omega, by rw [_k.2.2.2.2.2.2.1, _k.2.2.2.2.2.2.2.1]; omega, by omega, by omega⟩
                  have h236243 : TC T H236219 tk B n (xN B n ((xN B n (xN B n (xN B n ((xN B n q))))))) := (TC_fr w236205 gtk ((wfr.rf (l := [(27, 10)])).put' e236220 g1 rfl) rfl (TC_fr w236197 gtk ((wfr.rf (l := [(35, 13)])).put' e236204 g235647 rfl) rfl p236199))
                  have k236244 : H236219 r1 0 = H r1 0 := ((wq_u_j e236220 rfl).trans ((wq_u_t e236204 g235647 g1 rfl 0).trans ((f236198 r1 0 _ g1 rfl).trans ((wq_u_t e236155 g235647 g1 rfl 0).trans ((f236119 r1 0 _ g1 rfl).trans (f236103 r1 0 _ g1 rfl))))))
                  have q236245 : H236219 r1 0 = (r235640 : Int) := k236244.trans q235641
                  have k236246 : H236219 r235640 ((H r1 10).toNat) = H r235640 ((H r1 10).toNat) := ((wq_u_t e236220 g1 g235642 rfl ((H r1 10).toNat)).trans ((wq_u_t e236204 g235647 g235642 rfl ((H r1 10).toNat)).trans ((f236198 r235640 ((H r1 10).toNat) _ g235642 rfl).trans ((wq_u_t e236155 g235647 g235642 rfl ((H r1 10).toNat)).trans ((f236119 r235640 ((H r1 10).toNat) _ g235642 rfl).trans (f236103 r235640 ((H r1 10).toNat) _ g235642 rfl))))))
                  have q236247 : H236219 r235640 ((H r1 10).toNat) = (r235645 : Int) := k236246.trans q235646
                  have h236248 : ST T H236219 r1 (d 13) := (ST_fr w236205 g1 ((wfr.rf (l := [(27, 10)])).put' e236220 g1 rfl) rfl (ST_fr w236197 g1 ((wfr.rf (l := [(35, 13)])).put' e236204 g235647 rfl) rfl (ST_fr w236156 g1 f236198 rfl (ST_fr w236118 g1 ((wfr.rf (l := [(35, 12)])).put' e236155 g235647 rfl) rfl (ST_fr w236102 g1 f236119 rfl (ST_fr hW g1 f236103 rfl h235634))))))
                  have h236249 : SV T H236219 r1 (d 13) 24 := (SV_fr w236205 g1 ((wfr.rf (l := [(27, 10)])).put' e236220 g1 rfl) rfl (SV_fr w236197 g1 ((wfr.rf (l := [(35, 13)])).put' e236204 g235647 rfl) rfl (SV_fr w236156 g1 f236198 rfl (SV_fr w236118 g1 ((wfr.rf (l := [(35, 12)])).put' e236155 g235647 rfl) rfl (SV_fr w236102 g1 f236119 rfl (SV_fr hW g1 f236103 rfl h235635))))))
                  have h236250 : DA3 T H236219 r1 (d 0 5) (d 12) := (DA3_fr w236205 g1 ((wfr.rf (l := [(27, 10)])).put' e236220 g1 rfl) rfl (DA3_fr w236197 g1 ((wfr.rf (l := [(35, 13)])).put' e236204 g235647 rfl) rfl (DA3_fr w236156 g1 f236198 rfl (DA3_fr w236118 g1 ((wfr.rf (l := [(35, 12)])).put' e236155 g235647 rfl) rfl (DA3_fr w236102 g1 f236119 rfl (DA3_fr hW g1 f236103 rfl h235636))))))
                  have h236251 : DA4 T H236219 r1 (d 0 6) (d 14) := (DA4_fr w236205 g1 ((wfr.rf (l := [(27, 10)])).put' e236220 g1 rfl) rfl (DA4_fr w236197 g1 ((wfr.rf (l := [(35, 13)])).put' e236204 g235647 rfl) rfl (DA4_fr w236156 g1 f236198 rfl (DA4_fr w236118 g1 ((wfr.rf (l := [(35, 12)])).put' e236155 g235647 rfl) rfl (DA4_fr w236102 g1 f236119 rfl (DA4_fr hW g1 f236103 rfl h235637))))))
                  have h236252 : DA5 T H236219 r1 (d 0 6) (d 15) := (DA5_fr w236205 g1 ((wfr.rf (l := [(27, 10)])).put' e236220 g1 rfl) rfl (DA5_fr w236197 g1 ((wfr.rf (l := [(35, 13)])).put' e236204 g235647 rfl) rfl (DA5_fr w236156 g1 f236198 rfl (DA5_fr w236118 g1 ((wfr.rf (l := [(35, 12)])).put' e236155 g235647 rfl) rfl (DA5_fr w236102 g1 f236119 rfl (DA5_fr hW g1 f236103 rfl h235638))))))
                  have h236253 : DA6 T H236219 r1 (d 0 7) (d 16) := (DA6_fr w236205 g1 ((wfr.rf (l := [(27, 10)])).put' e236220 g1 rfl) rfl (DA6_fr w236197 g1 ((wfr.rf (l := [(35, 13)])).put' e236204 g235647 rfl) rfl (DA6_fr w236156 g1 f236198 rfl (DA6_fr w236118 g1 ((wfr.rf (l := [(35, 12)])).put' e236155 g235647 rfl) rfl (DA6_fr w236102 g1 f236119 rfl (DA6_fr hW g1 f236103 rfl h235639))))))
                  exact wp_zreturn e30 c30_146 rfl (by omega) ⟨rfl, w236221, f236222, 1, rfl, ⟨by omega, by omega⟩, (Or.inl ⟨by omega, by omega, by omega, by rw [o236242]; exact h236243, DC_mk ⟨by omega, by omega, by omega, by omega, by omega, by omega, by omega, by omega, by omega, by omega, by omega, by omega, by omega, by omega, by omega, by omega⟩ (DQ_per g235647 (DQ_oth hW g1 f236222 rfl hDD_r1 q236245 q236247 (by omega) (by omega) (fun a ha ga => ((wq_u_tf e236220 g1 ga (by decide)).trans ((wq_u_nf e236204 ha).trans ((f236198.fn ga rfl).trans ((wq_u_nf e236155 ha).trans ((f236119.fn ga rfl).trans (f236103.fn ga rfl))))))) hDC_r1.2.1) (by omega) q236245 q236247 (k := (H r1 10).toNat) (by omega) _f) h236248 h236249 h236250 h236251 h236252 h236253 ⟨rfl, rfl, rfl, rfl, rfl⟩ ⟨by omega, by omega, by omega⟩⟩)⟩
              · show wp _ _ 30 120 [(2, .ref r235645), (0, .ref r0), (1, .ref r1)] [vI z236178] _ H236154 _
                refine wp_of e30 c30_120 (rw_if_eq (p1 := 135) (p2 := 123) (by decide) rfl ⟨by omega, by omega⟩ (fun c236254 => ?_) (fun c236254 => ?_))
                · have _ec : xqc B n ((xN B n (xN B n (xN B n ((xN B n q)))))) = ((xN B n (xN B n (xN B n ((xN B n q)))))) := by
                    unfold xqc
                    first | rw [if_pos (by omega)] | rw [if_neg (by omega)]
                  have _ew : xaw B n ((xN B n (xN B n (xN B n ((xN B n q)))))) = H236154 r235645 13 := by
                    unfold xaw
                    first | (rw [if_pos (by omega)]; omega) | (rw [if_neg (by omega)]; omega)
                  refine wp_of e30 c30_135 (rw_aload_n (pc' := 136) (v := .ref r1) rfl rfl rfl ?_)
                  refine wp_of e30 c30_136 (rw_dup (pc' := 137) rfl rfl ?_)
                  have k236255 : H236154 r1 10 = H r1 10 := ((wq_u_t e236155 g235647 g1 rfl 10).trans ((f236119 r1 10 _ g1 rfl).trans (f236103 r1 10 _ g1 rfl)))
                  refine wp_of e30 c30_137 (xg_I (pc' := 140) lf_1_44 w236156 g1 sh_27 (by decide) (by decide) ty_27_10 rfl rfl (fun b236256 b236257 => ?_))
                  refine wp_of e30 c30_140 (rw_iconst (pc' := 141) rfl ?_)
                  refine wp_of e30 c30_141 (rw_iadd (pc' := 142) rfl ?_)
                  refine wp_of e30 c30_142 (xp_I (pc' := 145) lf_1_44 w236156 g1 sh_27 (by decide) (by decide) ty_27_10 rfl rfl (by omega) (by omega) ⟨by omega, by omega⟩ rfl (fun H236258 e236259 w236260 => ?_))
                  have f236261 := f236157.put' e236259 g1 rfl
                  have k236262 : H236258 r1 10 = (H236154 r1 10) + 1 := wq_u_s e236259
                  refine wp_of e30 c30_145 (rw_iconst (pc' := 146) rfl ?_)
                  have k236263 : H236258 r1 7 = H r1 7 := ((wq_u_j e236259 rfl).trans ((wq_u_t e236155 g235647 g1 rfl 7).trans ((f236119 r1 7 _ g1 rfl).trans (f236103 r1 7 _ g1 rfl))))
                  have k236264 : H236258 r1 8 = H r1 8 := ((wq_u_j e236259 rfl).trans ((wq_u_t e236155 g235647 g1 rfl 8).trans ((f236119 r1 8 _ g1 rfl).trans (f236103 r1 8 _ g1 rfl))))
                  have k236265 : H236258 r1 9 = H r1 9 := ((wq_u_j e236259 rfl).trans ((wq_u_t e236155 g235647 g1 rfl 9).trans ((f236119 r1 9 _ g1 rfl).trans (f236103 r1 9 _ g1 rfl))))
                  have k236266 : H236258 r1 11 = H r1 11 := ((wq_u_j e236259 rfl).trans ((wq_u_t e236155 g235647 g1 rfl 11).trans ((f236119 r1 11 _ g1 rfl).trans (f236103 r1 11 _ g1 rfl))))
                  have k236267 : H236258 r1 12 = H r1 12 := ((wq_u_j e236259 rfl).trans ((wq_u_t e236155 g235647 g1 rfl 12).trans ((f236119 r1 12 _ g1 rfl).trans (f236103 r1 12 _ g1 rfl))))
                  have k236268 : H236258 r1 13 = H r1 13 := ((wq_u_j e236259 rfl).trans ((wq_u_t e236155 g235647 g1 rfl 13).trans ((f236119 r1 13 _ g1 rfl).trans (f236103 r1 13 _ g1 rfl))))
                  have k236269 : H236258 r1 14 = H r1 14 := ((wq_u_j e236259 rfl).trans ((wq_u_t e236155 g235647 g1 rfl 14).trans ((f236119 r1 14 _ g1 rfl).trans (f236103 r1 14 _ g1 rfl))))
                  have k236270 : H236258 r1 15 = H r1 15 := ((wq_u_j e236259 rfl).trans ((wq_u_t e236155 g235647 g1 rfl 15).trans ((f236119 r1 15 _ g1 rfl).trans (f236103 r1 15 _ g1 rfl))))
                  have k236271 : H236258 r1 16 = H r1 16 := ((wq_u_j e236259 rfl).trans ((wq_u_t e236155 g235647 g1 rfl 16).trans ((f236119 r1 16 _ g1 rfl).trans (f236103 r1 16 _ g1 rfl))))
                  have k236272 : H236258 r235645 6 = H236154 r235645 6 := (wq_u_t e236259 g1 g235647 rfl 6)
                  have k236273 : H236258 r235645 7 = H236154 r235645 7 := (wq_u_t e236259 g1 g235647 rfl 7)
                  have k236274 : H236258 r235645 8 = H236154 r235645 8 := (wq_u_t e236259 g1 g235647 rfl 8)
                  have k236275 : H236258 r235645 9 = H236154 r235645 9 := (wq_u_t e236259 g1 g235647 rfl 9)
                  have k236276 : H236258 r235645 10 = H236154 r235645 10 := (wq_u_t e236259 g1 g235647 rfl 10)
                  have k236277 : H236258 r235645 11 = H236154 r235645 11 := (wq_u_t e236259 g1 g235647 rfl 11)
                  have k236278 : H236258 r235645 12 = H236154 r235645 12 := (wq_u_t e236259 g1 g235647 rfl 12)
                  have k236279 : H236258 r235645 13 = H236154 r235645 13 := (wq_u_t e236259 g1 g235647 rfl 13)
                  have k236280 : H236258 r235645 14 = H236154 r235645 14 := (wq_u_t e236259 g1 g235647 rfl 14)
                  have o236281 : (xcs B n q) = (0, q, (xN B n (xN B n (xN B n ((xN B n q)))))) := by
                    unfold xcs xca xcb
                    try rw [_ea]
                    try rw [_eb]
                    try rw [_ec]
                    repeat first | rw [xs_0 (by omega)] | rw [xs_1 (by omega)] | rw [if_pos (by omega)] | rw [if_neg (by omega)]
                    first | done | rfl | assumption | (exfalso; omega) | (refine Prod.ext ?_ (Prod.ext ?_ ?_) <;> (try dsimp only) <;> omega)
                  have o236281a : ((xcs B n q)).1 = 0 := by rw [o236281]
                  have o236281b : ((xcs B n q)).2.1 = q := by rw [o236281]
                  have o236281c : ((xcs B n q)).2.2 = (xN B n (xN B n (xN B n ((xN B n q))))) := by rw [o236281]
                  have _l := @xdper_v B n y d
                  have _k := @xdper_k (H r1 10).toNat d B n y (by omega)
                  rw [← p1] at _k
                  rw [_ea, _eb] at _k
                  have _f : H236258 r235645 6 = xdper B n y d 1 (H r1 10).toNat ∧ H236258 r235645 7 = xdper B n y d 2 (H r1 10).toNat ∧ H236258 r235645 8 = xdper B n y d 3 (H r1 10).toNat ∧ H236258 r235645 9 = xdper B n y d 4 (H r1 10).toNat ∧ H236258 r235645 10 = xdper B n y d 5 (H r1 10).toNat ∧ H236258 r235645 11 = xdper B n y d 6 (H r1 10).toNat ∧ H236258 r235645 12 = xhs (xdper B n y d 7 (H r1 10).toNat) (xdper B n y d 8 (H r1 10).toNat) ∧ H236258 r235645 13 = xdper B n y d 9 (H r1 10).toNat ∧ H236258 r235645 14 = 0 := ⟨by omega, by omega, by omega, by omega, by omega, by omega, by rw [_k.2.2.2.2.2.2.1, _k.2.2.2.2.2.2.2.1]; omega, by omega, by omega⟩
                  have h236282 : TC T H236258 tk B n (xN B n (xN B n (xN B n ((xN B n q))))) := (TC_fr w236156 gtk ((wfr.rf (l := [(27, 10)])).put' e236259 g1 rfl) rfl h236170)
                  have k236283 : H236258 r1 0 = H r1 0 := ((wq_u_j e236259 rfl).trans ((wq_u_t e236155 g235647 g1 rfl 0).trans ((f236119 r1 0 _ g1 rfl).trans (f236103 r1 0 _ g1 rfl))))
                  have q236284 : H236258 r1 0 = (r235640 : Int) := k236283.trans q235641
                  have k236285 : H236258 r235640 ((H r1 10).toNat) = H r235640 ((H r1 10).toNat) := ((wq_u_t e236259 g1 g235642 rfl ((H r1 10).toNat)).trans ((wq_u_t e236155 g235647 g235642 rfl ((H r1 10).toNat)).trans ((f236119 r235640 ((H r1 10).toNat) _ g235642 rfl).trans (f236103 r235640 ((H r1 10).toNat) _ g235642 rfl))))
                  have q236286 : H236258 r235640 ((H r1 10).toNat) = (r235645 : Int) := k236285.trans q235646
                  have h236287 : ST T H236258 r1 (d 13) := (ST_fr w236156 g1 ((wfr.rf (l := [(27, 10)])).put' e236259 g1 rfl) rfl (ST_fr w236118 g1 ((wfr.rf (l := [(35, 12)])).put' e236155 g235647 rfl) rfl (ST_fr w236102 g1 f236119 rfl (ST_fr hW g1 f236103 rfl h235634))))
                  have h236288 : SV T H236258 r1 (d 13) 24 := (SV_fr w236156 g1 ((wfr.rf (l := [(27, 10)])).put' e236259 g1 rfl) rfl (SV_fr w236118 g1 ((wfr.rf (l := [(35, 12)])).put' e236155 g235647 rfl) rfl (SV_fr w236102 g1 f236119 rfl (SV_fr hW g1 f236103 rfl h235635))))
                  have h236289 : DA3 T H236258 r1 (d 0 5) (d 12) := (DA3_fr w236156 g1 ((wfr.rf (l := [(27, 10)])).put' e236259 g1 rfl) rfl (DA3_fr w236118 g1 ((wfr.rf (l := [(35, 12)])).put' e236155 g235647 rfl) rfl (DA3_fr w236102 g1 f236119 rfl (DA3_fr hW g1 f236103 rfl h235636))))
                  have h236290 : DA4 T H236258 r1 (d 0 6) (d 14) := (DA4_fr w236156 g1 ((wfr.rf (l := [(27, 10)])).put' e236259 g1 rfl) rfl (DA4_fr w236118 g1 ((wfr.rf (l := [(35, 12)])).put' e236155 g235647 rfl) rfl (DA4_fr w236102 g1 f236119 rfl (DA4_fr hW g1 f236103 rfl h235637))))
                  have h236291 : DA5 T H236258 r1 (d 0 6) (d 15) := (DA5_fr w236156 g1 ((wfr.rf (l := [(27, 10)])).put' e236259 g1 rfl) rfl (DA5_fr w236118 g1 ((wfr.rf (l := [(35, 12)])).put' e236155 g235647 rfl) rfl (DA5_fr w236102 g1 f236119 rfl (DA5_fr hW g1 f236103 rfl h235638))))
                  have h236292 : DA6 T H236258 r1 (d 0 7) (d 16) := (DA6_fr w236156 g1 ((wfr.rf (l := [(27, 10)])).put' e236259 g1 rfl) rfl (DA6_fr w236118 g1 ((wfr.rf (l := [(35, 12)])).put' e236155 g235647 rfl) rfl (DA6_fr w236102 g1 f236119 rfl (DA6_fr hW g1 f236103 rfl h235639))))
                  exact wp_zreturn e30 c30_146 rfl (by omega) ⟨rfl, w236260, f236261, 1, rfl, ⟨by omega, by omega⟩, (Or.inl ⟨by omega, by omega, by omega, by rw [o236281]; exact h236282, DC_mk ⟨by omega, by omega, by omega, by omega, by omega, by omega, by omega, by omega, by omega, by omega, by omega, by omega, by omega, by omega, by omega, by omega⟩ (DQ_per g235647 (DQ_oth hW g1 f236261 rfl hDD_r1 q236284 q236286 (by omega) (by omega) (fun a ha ga => ((wq_u_tf e236259 g1 ga (by decide)).trans ((wq_u_nf e236155 ha).trans ((f236119.fn ga rfl).trans (f236103.fn ga rfl))))) hDC_r1.2.1) (by omega) q236284 q236286 (k := (H r1 10).toNat) (by omega) _f) h236287 h236288 h236289 h236290 h236291 h236292 ⟨rfl, rfl, rfl, rfl, rfl⟩ ⟨by omega, by omega, by omega⟩⟩)⟩
                · exfalso
                  omega
            · exfalso
              omega
          · have f236293 := f236106.tr f236119 rfl
            show wp _ _ 30 87 [(2, .ref r235645), (0, .ref r0), (1, .ref r1)] [vI z236120] _ H236114 _
            refine wp_of e30 c30_87 (rw_if_ne (p1 := 92) (p2 := 90) (by decide) rfl ⟨by omega, by omega⟩ (fun c236294 => ?_) (fun c236294 => ?_))
            · exfalso
              omega
            · refine wp_of e30 c30_90 (rw_iconst (pc' := 91) rfl ?_)
              have o236295 : (xcs B n q) = ((xrg B n ((xN B n q)) 23 1 24 24).1, (xrg B n ((xN B n q)) 23 1 24 24).2.1, (xrg B n ((xN B n q)) 23 1 24 24).2.2) := by
                unfold xcs xca xcb
                try rw [_ea]
                try rw [_eb]
                try rw [_ec]
                repeat first | rw [xs_0 (by omega)] | rw [xs_1 (by omega)] | rw [if_pos (by omega)] | rw [if_neg (by omega)]
                first | done | rfl | assumption | (exfalso; omega) | (refine Prod.ext ?_ (Prod.ext ?_ ?_) <;> (try dsimp only) <;> omega)
              have o236295a : ((xcs B n q)).1 = (xrg B n ((xN B n q)) 23 1 24 24).1 := by rw [o236295]
              have o236295b : ((xcs B n q)).2.1 = (xrg B n ((xN B n q)) 23 1 24 24).2.1 := by rw [o236295]
              have o236295c : ((xcs B n q)).2.2 = (xrg B n ((xN B n q)) 23 1 24 24).2.2 := by rw [o236295]
              exact wp_zreturn e30 c30_91 rfl (by omega) ⟨rfl, w236118, f236293, 0, rfl, ⟨by omega, by omega⟩, (Or.inr ⟨by omega, by omega, by omega, by omega, by omega⟩)⟩
      · show wp _ _ 30 66 [(2, .ref r235645), (0, .ref r0), (1, .ref r1)] [vI z236087] _ H _
        refine wp_of e30 c30_66 (rw_if_eq (p1 := 107) (p2 := 69) (by decide) rfl ⟨by omega, by omega⟩ (fun c236296 => ?_) (fun c236296 => ?_))
        · have _eb : xqb B n q = q := by
            unfold xqb
            first | rw [if_pos (by omega)] | rw [if_neg (by omega)]
          have _en : H r235645 12 = xhs (xnf B n q) (xnt B n q) := by
            unfold xnf xnt
            first | (rw [if_pos (by omega), if_pos (by omega)]; omega) | (rw [if_neg (by omega), if_neg (by omega)]; omega)
          refine wp_of e30 c30_107 (rw_aload_n (pc' := 108) (v := .ref r0) rfl rfl rfl ?_)
          refine wp_of e30 c30_108 (xg_K (pc' := 111) lf_1_12 hW g0 sh_3 (by decide) (by decide) rfl qtk rfl ?_)
          refine wp_of e30 c30_111 (rw_gs (pc' := 114) (k := 26) rfl rfl rfl rfl ?_)
          have k236297 : H 26 0 = ((42 : Nat) : Int) := (hW.2 26 _ (hW.1.2.2 10 (by decide))).2.2 0 (by decide) |> fun z => by have z1 : (42 : Int) ≤ H 26 0 ∧ H 26 0 ≤ 42 := z; omega
          refine wp_of e30 c30_114 (rw_getR (pc' := 117) (n := 2) (b := 42) (e := _) (lf_1_181).choose_spec.1 (lf_1_181).choose_spec.2.1 (hW.sh (hW.1.2.2 10 (by decide)) rfl) (by decide) rfl k236297 rfl ?_)
          refine wp_of e30 c30_117 (xc_V (pc' := 120) (r := tk) (as := [.ref 42]) (st := []) (lm_1_185) rfl rfl (Nat.le_of_ble_eq_true rfl) hW gtk sh_4 (by decide) rfl (by decide) (u_19_t (B := B) (n := n) (q := q) (kk := 56377) hW gtk rfl (by decide +kernel) hTC_tk) (fun R236298 T236299 H236300 p236301 => ?_))
          obtain ⟨e236302, e236304, z236305, e236303, b236306, p236307⟩ := p236301
          subst e236302
          subst e236303
          subst e236304
          rcases p236307 with ⟨a236308, a236309⟩ | ⟨a236310, a236311⟩
          · show wp _ _ 30 120 [(2, .ref r235645), (0, .ref r0), (1, .ref r1)] [vI z236305] _ H _
            refine wp_of e30 c30_120 (rw_if_eq (p1 := 135) (p2 := 123) (by decide) rfl ⟨by omega, by omega⟩ (fun c236312 => ?_) (fun c236312 => ?_))
            · exfalso
              omega
            · refine wp_of e30 c30_123 (rw_aload_n (pc' := 124) (v := .ref r0) rfl rfl rfl ?_)
              refine wp_of e30 c30_124 (xg_K (pc' := 127) lf_1_12 hW g0 sh_3 (by decide) (by decide) rfl qtk rfl ?_)
              have h236313 : TP T H rb B := TC_tp hTC_tk qrb
              refine wp_of e30 c30_127 (xc_V (pc' := 130) (r := tk) (as := []) (st := []) (lm_1_74) rfl rfl (Nat.le_of_ble_eq_true rfl) hW gtk sh_4 (by decide) rfl (by decide) (u_16 (B := B) (n := n) (a := (xE B n q)) (q := (xN B n q)) hW gtk qrb grb (by omega) (by omega) (by omega) (rfl) h236313) (fun R236314 T236315 H236316 p236317 => ?_))
              obtain ⟨e236318, w236320, f236321, e236319, p236322⟩ := p236317
              subst e236318
              subst e236319
              have f236324 := f0.tr f236321 rfl
              show wp _ _ 30 130 [(2, .ref r235645), (0, .ref r0), (1, .ref r1)] [] _ H236316 _
              have u236325 := TC_k p236322
              refine wp_of e30 c30_130 (rw_aload_n (pc' := 131) (v := .ref r235645) rfl rfl rfl ?_)
              refine wp_of e30 c30_131 (rw_iconst (pc' := 132) rfl ?_)
              refine wp_of e30 c30_132 (xp_Z (pc' := 135) lf_1_203 w236320 g235647 sh_35 (by decide) (by decide) ty_35_13 rfl rfl (by omega) (by omega) rfl (fun H236326 e236327 w236328 => ?_))
              have f236329 := f236324.put' e236327 g235647 rfl
              have k236330 : H236326 r235645 13 = 1 := wq_u_s e236327
              have _ec : xqc B n q = ((xN B n q)) := by
                unfold xqc
                first | rw [if_pos (by omega)] | rw [if_neg (by omega)]
              have k236331 : H236326 r235645 6 = H r235645 6 := ((wq_u_j e236327 rfl).trans (f236321 r235645 6 _ g235647 rfl))
              have k236332 : H236326 r235645 7 = H r235645 7 := ((wq_u_j e236327 rfl).trans (f236321 r235645 7 _ g235647 rfl))
              have k236333 : H236326 r235645 8 = H r235645 8 := ((wq_u_j e236327 rfl).trans (f236321 r235645 8 _ g235647 rfl))
              have k236334 : H236326 r235645 9 = H r235645 9 := ((wq_u_j e236327 rfl).trans (f236321 r235645 9 _ g235647 rfl))
              have k236335 : H236326 r235645 10 = H r235645 10 := ((wq_u_j e236327 rfl).trans (f236321 r235645 10 _ g235647 rfl))
              have k236336 : H236326 r235645 11 = H r235645 11 := ((wq_u_j e236327 rfl).trans (f236321 r235645 11 _ g235647 rfl))
              have k236337 : H236326 r235645 12 = H r235645 12 := ((wq_u_j e236327 rfl).trans (f236321 r235645 12 _ g235647 rfl))
              have k236338 : H236326 r235645 14 = H r235645 14 := ((wq_u_j e236327 rfl).trans (f236321 r235645 14 _ g235647 rfl))
              have _ew : xaw B n q = H236326 r235645 13 := by
                unfold xaw
                first | (rw [if_pos (by omega)]; omega) | (rw [if_neg (by omega)]; omega)
              refine wp_of e30 c30_135 (rw_aload_n (pc' := 136) (v := .ref r1) rfl rfl rfl ?_)
              refine wp_of e30 c30_136 (rw_dup (pc' := 137) rfl rfl ?_)
              have k236339 : H236326 r1 10 = H r1 10 := ((wq_u_t e236327 g235647 g1 rfl 10).trans (f236321 r1 10 _ g1 rfl))
              refine wp_of e30 c30_137 (xg_I (pc' := 140) lf_1_44 w236328 g1 sh_27 (by decide) (by decide) ty_27_10 rfl rfl (fun b236340 b236341 => ?_))
              refine wp_of e30 c30_140 (rw_iconst (pc' := 141) rfl ?_)
              refine wp_of e30 c30_141 (rw_iadd (pc' := 142) rfl ?_)
              refine wp_of e30 c30_142 (xp_I (pc' := 145) lf_1_44 w236328 g1 sh_27 (by decide) (by decide) ty_27_10 rfl rfl (by omega) (by omega) ⟨by omega, by omega⟩ rfl (fun H236342 e236343 w236344 => ?_))
              have f236345 := f236329.put' e236343 g1 rfl
              have k236346 : H236342 r1 10 = (H236326 r1 10) + 1 := wq_u_s e236343
              refine wp_of e30 c30_145 (rw_iconst (pc' := 146) rfl ?_)
              have k236347 : H236342 r1 7 = H r1 7 := ((wq_u_j e236343 rfl).trans ((wq_u_t e236327 g235647 g1 rfl 7).trans (f236321 r1 7 _ g1 rfl)))
              have k236348 : H236342 r1 8 = H r1 8 := ((wq_u_j e236343 rfl).trans ((wq_u_t e236327 g235647 g1 rfl 8).trans (f236321 r1 8 _ g1 rfl)))
              have k236349 : H236342 r1 9 = H r1 9 := ((wq_u_j e236343 rfl).trans ((wq_u_t e236327 g235647 g1 rfl 9).trans (f236321 r1 9 _ g1 rfl)))
              have k236350 : H236342 r1 11 = H r1 11 := ((wq_u_j e236343 rfl).trans ((wq_u_t e236327 g235647 g1 rfl 11).trans (f236321 r1 11 _ g1 rfl)))
              have k236351 : H236342 r1 12 = H r1 12 := ((wq_u_j e236343 rfl).trans ((wq_u_t e236327 g235647 g1 rfl 12).trans (f236321 r1 12 _ g1 rfl)))
              have k236352 : H236342 r1 13 = H r1 13 := ((wq_u_j e236343 rfl).trans ((wq_u_t e236327 g235647 g1 rfl 13).trans (f236321 r1 13 _ g1 rfl)))
              have k236353 : H236342 r1 14 = H r1 14 := ((wq_u_j e236343 rfl).trans ((wq_u_t e236327 g235647 g1 rfl 14).trans (f236321 r1 14 _ g1 rfl)))
              have k236354 : H236342 r1 15 = H r1 15 := ((wq_u_j e236343 rfl).trans ((wq_u_t e236327 g235647 g1 rfl 15).trans (f236321 r1 15 _ g1 rfl)))
              have k236355 : H236342 r1 16 = H r1 16 := ((wq_u_j e236343 rfl).trans ((wq_u_t e236327 g235647 g1 rfl 16).trans (f236321 r1 16 _ g1 rfl)))
              have k236356 : H236342 r235645 6 = H236326 r235645 6 := (wq_u_t e236343 g1 g235647 rfl 6)
              have k236357 : H236342 r235645 7 = H236326 r235645 7 := (wq_u_t e236343 g1 g235647 rfl 7)
              have k236358 : H236342 r235645 8 = H236326 r235645 8 := (wq_u_t e236343 g1 g235647 rfl 8)
              have k236359 : H236342 r235645 9 = H236326 r235645 9 := (wq_u_t e236343 g1 g235647 rfl 9)
              have k236360 : H236342 r235645 10 = H236326 r235645 10 := (wq_u_t e236343 g1 g235647 rfl 10)
              have k236361 : H236342 r235645 11 = H236326 r235645 11 := (wq_u_t e236343 g1 g235647 rfl 11)
              have k236362 : H236342 r235645 12 = H236326 r235645 12 := (wq_u_t e236343 g1 g235647 rfl 12)
              have k236363 : H236342 r235645 13 = H236326 r235645 13 := (wq_u_t e236343 g1 g235647 rfl 13)
              have k236364 : H236342 r235645 14 = H236326 r235645 14 := (wq_u_t e236343 g1 g235647 rfl 14)
              have o236365 : (xcs B n q) = (0, q, (xN B n q)) := by
                unfold xcs xca xcb
                try rw [_ea]
                try rw [_eb]
                try rw [_ec]
                repeat first | rw [xs_0 (by omega)] | rw [xs_1 (by omega)] | rw [if_pos (by omega)] | rw [if_neg (by omega)]
                first | done | rfl | assumption | (exfalso; omega) | (refine Prod.ext ?_ (Prod.ext ?_ ?_) <;> (try dsimp only) <;> omega)
              have o236365a : ((xcs B n q)).1 = 0 := by rw [o236365]
              have o236365b : ((xcs B n q)).2.1 = q := by rw [o236365]
              have o236365c : ((xcs B n q)).2.2 = (xN B n q) := by rw [o236365]
              have _l := @xdper_v B n y d
              have _k := @xdper_k (H r1 10).toNat d B n y (by omega)
              rw [← p1] at _k
              rw [_ea, _eb] at _k
              have _f : H236342 r235645 6 = xdper B n y d 1 (H r1 10).toNat ∧ H236342 r235645 7 = xdper B n y d 2 (H r1 10).toNat ∧ H236342 r235645 8 = xdper B n y d 3 (H r1 10).toNat ∧ H236342 r235645 9 = xdper B n y d 4 (H r1 10).toNat ∧ H236342 r235645 10 = xdper B n y d 5 (H r1 10).toNat ∧ H236342 r235645 11 = xdper B n y d 6 (H r1 10).toNat ∧ H236342 r235645 12 = xhs (xdper B n y d 7 (H r1 10).toNat) (xdper B n y d 8 (H r1 10).toNat) ∧ H236342 r235645 13 = xdper B n y d 9 (H r1 10).toNat ∧ H236342 r235645 14 = 0 := ⟨by omega, by omega, by omega, by omega, by omega, by omega, by rw [_k.2.2.2.2.2.2.1, _k.2.2.2.2.2.2.2.1]; omega, by omega, by omega⟩
              have h236366 : TC T H236342 tk B n (xN B n q) := (TC_fr w236328 gtk ((wfr.rf (l := [(27, 10)])).put' e236343 g1 rfl) rfl (TC_fr w236320 gtk ((wfr.rf (l := [(35, 13)])).put' e236327 g235647 rfl) rfl p236322))
              have k236367 : H236342 r1 0 = H r1 0 := ((wq_u_j e236343 rfl).trans ((wq_u_t e236327 g235647 g1 rfl 0).trans (f236321 r1 0 _ g1 rfl)))
              have q236368 : H236342 r1 0 = (r235640 : Int) := k236367.trans q235641
              have k236369 : H236342 r235640 ((H r1 10).toNat) = H r235640 ((H r1 10).toNat) := ((wq_u_t e236343 g1 g235642 rfl ((H r1 10).toNat)).trans ((wq_u_t e236327 g235647 g235642 rfl ((H r1 10).toNat)).trans (f236321 r235640 ((H r1 10).toNat) _ g235642 rfl)))
              have q236370 : H236342 r235640 ((H r1 10).toNat) = (r235645 : Int) := k236369.trans q235646
              have h236371 : ST T H236342 r1 (d 13) := (ST_fr w236328 g1 ((wfr.rf (l := [(27, 10)])).put' e236343 g1 rfl) rfl (ST_fr w236320 g1 ((wfr.rf (l := [(35, 13)])).put' e236327 g235647 rfl) rfl (ST_fr hW g1 f236321 rfl h235634)))
              have h236372 : SV T H236342 r1 (d 13) 24 := (SV_fr w236328 g1 ((wfr.rf (l := [(27, 10)])).put' e236343 g1 rfl) rfl (SV_fr w236320 g1 ((wfr.rf (l := [(35, 13)])).put' e236327 g235647 rfl) rfl (SV_fr hW g1 f236321 rfl h235635)))
              have h236373 : DA3 T H236342 r1 (d 0 5) (d 12) := (DA3_fr w236328 g1 ((wfr.rf (l := [(27, 10)])).put' e236343 g1 rfl) rfl (DA3_fr w236320 g1 ((wfr.rf (l := [(35, 13)])).put' e236327 g235647 rfl) rfl (DA3_fr hW g1 f236321 rfl h235636)))
              have h236374 : DA4 T H236342 r1 (d 0 6) (d 14) := (DA4_fr w236328 g1 ((wfr.rf (l := [(27, 10)])).put' e236343 g1 rfl) rfl (DA4_fr w236320 g1 ((wfr.rf (l := [(35, 13)])).put' e236327 g235647 rfl) rfl (DA4_fr hW g1 f236321 rfl h235637)))
              have h236375 : DA5 T H236342 r1 (d 0 6) (d 15) := (DA5_fr w236328 g1 ((wfr.rf (l := [(27, 10)])).put' e236343 g1 rfl) rfl (DA5_fr w236320 g1 ((wfr.rf (l := [(35, 13)])).put' e236327 g235647 rfl) rfl (DA5_fr hW g1 f236321 rfl h235638)))
              have h236376 : DA6 T H236342 r1 (d 0 7) (d 16) := (DA6_fr w236328 g1 ((wfr.rf (l := [(27, 10)])).put' e236343 g1 rfl) rfl (DA6_fr w236320 g1 ((wfr.rf (l := [(35, 13)])).put' e236327 g235647 rfl) rfl (DA6_fr hW g1 f236321 rfl h235639)))
              exact wp_zreturn e30 c30_146 rfl (by omega) ⟨rfl, w236344, f236345, 1, rfl, ⟨by omega, by omega⟩, (Or.inl ⟨by omega, by omega, by omega, by rw [o236365]; exact h236366, DC_mk ⟨by omega, by omega, by omega, by omega, by omega, by omega, by omega, by omega, by omega, by omega, by omega, by omega, by omega, by omega, by omega, by omega⟩ (DQ_per g235647 (DQ_oth hW g1 f236345 rfl hDD_r1 q236368 q236370 (by omega) (by omega) (fun a ha ga => ((wq_u_tf e236343 g1 ga (by decide)).trans ((wq_u_nf e236327 ha).trans (f236321.fn ga rfl)))) hDC_r1.2.1) (by omega) q236368 q236370 (k := (H r1 10).toNat) (by omega) _f) h236371 h236372 h236373 h236374 h236375 h236376 ⟨rfl, rfl, rfl, rfl, rfl⟩ ⟨by omega, by omega, by omega⟩⟩)⟩
          · show wp _ _ 30 120 [(2, .ref r235645), (0, .ref r0), (1, .ref r1)] [vI z236305] _ H _
            refine wp_of e30 c30_120 (rw_if_eq (p1 := 135) (p2 := 123) (by decide) rfl ⟨by omega, by omega⟩ (fun c236377 => ?_) (fun c236377 => ?_))
            · have _ec : xqc B n q = q := by
                unfold xqc
                first | rw [if_pos (by omega)] | rw [if_neg (by omega)]
              have _ew : xaw B n q = H r235645 13 := by
                unfold xaw
                first | (rw [if_pos (by omega)]; omega) | (rw [if_neg (by omega)]; omega)
              refine wp_of e30 c30_135 (rw_aload_n (pc' := 136) (v := .ref r1) rfl rfl rfl ?_)
              refine wp_of e30 c30_136 (rw_dup (pc' := 137) rfl rfl ?_)
              refine wp_of e30 c30_137 (xg_I (pc' := 140) lf_1_44 hW g1 sh_27 (by decide) (by decide) ty_27_10 rfl rfl (fun b236378 b236379 => ?_))
              refine wp_of e30 c30_140 (rw_iconst (pc' := 141) rfl ?_)
              refine wp_of e30 c30_141 (rw_iadd (pc' := 142) rfl ?_)
              refine wp_of e30 c30_142 (xp_I (pc' := 145) lf_1_44 hW g1 sh_27 (by decide) (by decide) ty_27_10 rfl rfl (by omega) (by omega) ⟨by omega, by omega⟩ rfl (fun H236380 e236381 w236382 => ?_))
              have f236383 := f0.put' e236381 g1 rfl
              have k236384 : H236380 r1 10 = (H r1 10) + 1 := wq_u_s e236381
              refine wp_of e30 c30_145 (rw_iconst (pc' := 146) rfl ?_)
              have k236385 : H236380 r1 7 = H r1 7 := (wq_u_j e236381 rfl)
              have k236386 : H236380 r1 8 = H r1 8 := (wq_u_j e236381 rfl)
              have k236387 : H236380 r1 9 = H r1 9 := (wq_u_j e236381 rfl)
              have k236388 : H236380 r1 11 = H r1 11 := (wq_u_j e236381 rfl)
              have k236389 : H236380 r1 12 = H r1 12 := (wq_u_j e236381 rfl)
              have k236390 : H236380 r1 13 = H r1 13 := (wq_u_j e236381 rfl)
              have k236391 : H236380 r1 14 = H r1 14 := (wq_u_j e236381 rfl)
              have k236392 : H236380 r1 15 = H r1 15 := (wq_u_j e236381 rfl)
              have k236393 : H236380 r1 16 = H r1 16 := (wq_u_j e236381 rfl)
              have k236394 : H236380 r235645 6 = H r235645 6 := (wq_u_t e236381 g1 g235647 rfl 6)
              have k236395 : H236380 r235645 7 = H r235645 7 := (wq_u_t e236381 g1 g235647 rfl 7)
              have k236396 : H236380 r235645 8 = H r235645 8 := (wq_u_t e236381 g1 g235647 rfl 8)
              have k236397 : H236380 r235645 9 = H r235645 9 := (wq_u_t e236381 g1 g235647 rfl 9)
              have k236398 : H236380 r235645 10 = H r235645 10 := (wq_u_t e236381 g1 g235647 rfl 10)
              have k236399 : H236380 r235645 11 = H r235645 11 := (wq_u_t e236381 g1 g235647 rfl 11)
              have k236400 : H236380 r235645 12 = H r235645 12 := (wq_u_t e236381 g1 g235647 rfl 12)
              have k236401 : H236380 r235645 13 = H r235645 13 := (wq_u_t e236381 g1 g235647 rfl 13)
              have k236402 : H236380 r235645 14 = H r235645 14 := (wq_u_t e236381 g1 g235647 rfl 14)
              have o236403 : (xcs B n q) = (0, q, q) := by
                unfold xcs xca xcb
                try rw [_ea]
                try rw [_eb]
                try rw [_ec]
                repeat first | rw [xs_0 (by omega)] | rw [xs_1 (by omega)] | rw [if_pos (by omega)] | rw [if_neg (by omega)]
                first | done | rfl | assumption | (exfalso; omega) | (refine Prod.ext ?_ (Prod.ext ?_ ?_) <;> (try dsimp only) <;> omega)
              have o236403a : ((xcs B n q)).1 = 0 := by rw [o236403]
              have o236403b : ((xcs B n q)).2.1 = q := by rw [o236403]
              have o236403c : ((xcs B n q)).2.2 = q := by rw [o236403]
              have _l := @xdper_v B n y d
              have _k := @xdper_k (H r1 10).toNat d B n y (by omega)
              rw [← p1] at _k
              rw [_ea, _eb] at _k
              have _f : H236380 r235645 6 = xdper B n y d 1 (H r1 10).toNat ∧ H236380 r235645 7 = xdper B n y d 2 (H r1 10).toNat ∧ H236380 r235645 8 = xdper B n y d 3 (H r1 10).toNat ∧ H236380 r235645 9 = xdper B n y d 4 (H r1 10).toNat ∧ H236380 r235645 10 = xdper B n y d 5 (H r1 10).toNat ∧ H236380 r235645 11 = xdper B n y d 6 (H r1 10).toNat ∧ H236380 r235645 12 = xhs (xdper B n y d 7 (H r1 10).toNat) (xdper B n y d 8 (H r1 10).toNat) ∧ H236380 r235645 13 = xdper B n y d 9 (H r1 10).toNat ∧ H236380 r235645 14 = 0 := ⟨by omega, by omega, by omega, by omega, by omega, by omega, by rw [_k.2.2.2.2.2.2.1, _k.2.2.2.2.2.2.2.1]; omega, by omega, by omega⟩
              have h236404 : TC T H236380 tk B n q := (TC_fr hW gtk ((wfr.rf (l := [(27, 10)])).put' e236381 g1 rfl) rfl hTC_tk)
              have k236405 : H236380 r1 0 = H r1 0 := (wq_u_j e236381 rfl)
              have q236406 : H236380 r1 0 = (r235640 : Int) := k236405.trans q235641
              have k236407 : H236380 r235640 ((H r1 10).toNat) = H r235640 ((H r1 10).toNat) := (wq_u_t e236381 g1 g235642 rfl ((H r1 10).toNat))
              have q236408 : H236380 r235640 ((H r1 10).toNat) = (r235645 : Int) := k236407.trans q235646
              have h236409 : ST T H236380 r1 (d 13) := (ST_fr hW g1 ((wfr.rf (l := [(27, 10)])).put' e236381 g1 rfl) rfl h235634)
              have h236410 : SV T H236380 r1 (d 13) 24 := (SV_fr hW g1 ((wfr.rf (l := [(27, 10)])).put' e236381 g1 rfl) rfl h235635)
              have h236411 : DA3 T H236380 r1 (d 0 5) (d 12) := (DA3_fr hW g1 ((wfr.rf (l := [(27, 10)])).put' e236381 g1 rfl) rfl h235636)
              have h236412 : DA4 T H236380 r1 (d 0 6) (d 14) := (DA4_fr hW g1 ((wfr.rf (l := [(27, 10)])).put' e236381 g1 rfl) rfl h235637)
              have h236413 : DA5 T H236380 r1 (d 0 6) (d 15) := (DA5_fr hW g1 ((wfr.rf (l := [(27, 10)])).put' e236381 g1 rfl) rfl h235638)
              have h236414 : DA6 T H236380 r1 (d 0 7) (d 16) := (DA6_fr hW g1 ((wfr.rf (l := [(27, 10)])).put' e236381 g1 rfl) rfl h235639)
              exact wp_zreturn e30 c30_146 rfl (by omega) ⟨rfl, w236382, f236383, 1, rfl, ⟨by omega, by omega⟩, (Or.inl ⟨by omega, by omega, by omega, by rw [o236403]; exact h236404, DC_mk ⟨by omega, by omega, by omega, by omega, by omega, by omega, by omega, by omega, by omega, by omega, by omega, by omega, by omega, by omega, by omega, by omega⟩ (DQ_per g235647 (DQ_oth hW g1 f236383 rfl hDD_r1 q236406 q236408 (by omega) (by omega) (fun a ha ga => (wq_u_tf e236381 g1 ga (by decide))) hDC_r1.2.1) (by omega) q236406 q236408 (k := (H r1 10).toNat) (by omega) _f) h236409 h236410 h236411 h236412 h236413 h236414 ⟨rfl, rfl, rfl, rfl, rfl⟩ ⟨by omega, by omega, by omega⟩⟩)⟩
            · exfalso
              omega
        · exfalso
          omega
    · exfalso
      omega
/-! StrikeAwake$Parish.clear()V  -/
abbrev uq_14 (r0 : Nat) (T : wq_T) (H : wq_H) : Option Value → wq_T → wq_H → Prop := fun r T' H' => T = T' ∧ WT T H' ∧ wfr [(27, 7), (27, 8), (27, 9), (27, 10), (27, 11), (27, 12), (27, 13), (27, 14), (27, 15), (27, 16), (27, 17), (27, 18), (29, 999)] T H H' ∧ none = r ∧ ((DC T H' r0 xD0))
set_option maxHeartbeats 4000000 in
theorem u_14 {kt : Nat → Option mc_E} {T : wq_T} {H : wq_H} {r0 : Nat} (hW : WT T H) (g0 : T.2.2.2 r0 = some 27) : wpc kt 1 14 [.ref r0] T H (uq_14 r0 T H) := by
  refine wp_enter e14 (Nat.le_of_ble_eq_true rfl) rfl ?_
  have f0 : wfr [(27, 7), (27, 8), (27, 9), (27, 10), (27, 11), (27, 12), (27, 13), (27, 14), (27, 15), (27, 16), (27, 17), (27, 18), (29, 999)] T H H := wfr.rf
  show wp _ _ 14 0 [(0, .ref r0)] [] _ H _
  refine wp_of e14 c14_0 (rw_aload_n (pc' := 1) (v := .ref r0) rfl rfl rfl ?_)
  refine wp_of e14 c14_1 (rw_iconst (pc' := 2) rfl ?_)
  refine wp_of e14 c14_2 (xp_I (pc' := 5) lf_7_41 hW g0 sh_27 (by decide) (by decide) ty_27_7 rfl rfl (by omega) (by omega) ⟨by omega, by omega⟩ rfl (fun H236548 e236549 w236550 => ?_))
  have f236551 := f0.put' e236549 g0 rfl
  have k236552 : H236548 r0 7 = 0 := wq_u_s e236549
  refine wp_of e14 c14_5 (rw_aload_n (pc' := 6) (v := .ref r0) rfl rfl rfl ?_)
  refine wp_of e14 c14_6 (rw_iconst (pc' := 7) rfl ?_)
  refine wp_of e14 c14_7 (xp_I (pc' := 10) lf_7_44 w236550 g0 sh_27 (by decide) (by decide) ty_27_8 rfl rfl (by omega) (by omega) ⟨by omega, by omega⟩ rfl (fun H236553 e236554 w236555 => ?_))
  have f236556 := f236551.put' e236554 g0 rfl
  have k236557 : H236553 r0 8 = 0 := wq_u_s e236554
  refine wp_of e14 c14_10 (rw_aload_n (pc' := 11) (v := .ref r0) rfl rfl rfl ?_)
  refine wp_of e14 c14_11 (rw_iconst (pc' := 12) rfl ?_)
  refine wp_of e14 c14_12 (xp_I (pc' := 15) lf_7_47 w236555 g0 sh_27 (by decide) (by decide) ty_27_9 rfl rfl (by omega) (by omega) ⟨by omega, by omega⟩ rfl (fun H236558 e236559 w236560 => ?_))
  have f236561 := f236556.put' e236559 g0 rfl
  have k236562 : H236558 r0 9 = 0 := wq_u_s e236559
  refine wp_of e14 c14_15 (rw_aload_n (pc' := 16) (v := .ref r0) rfl rfl rfl ?_)
  refine wp_of e14 c14_16 (rw_iconst (pc' := 17) rfl ?_)
  refine wp_of e14 c14_17 (xp_I (pc' := 20) lf_7_50 w236560 g0 sh_27 (by decide) (by decide) ty_27_10 rfl rfl (by omega) (by omega) ⟨by omega, by omega⟩ rfl (fun H236563 e236564 w236565 => ?_))
  have f236566 := f236561.put' e236564 g0 rfl
  have k236567 : H236563 r0 10 = 0 := wq_u_s e236564
  refine wp_of e14 c14_20 (rw_aload_n (pc' := 21) (v := .ref r0) rfl rfl rfl ?_)
  refine wp_of e14 c14_21 (rw_iconst (pc' := 22) rfl ?_)
  refine wp_of e14 c14_22 (xp_I (pc' := 25) lf_7_53 w236565 g0 sh_27 (by decide) (by decide) ty_27_11 rfl rfl (by omega) (by omega) ⟨by omega, by omega⟩ rfl (fun H236568 e236569 w236570 => ?_))
  have f236571 := f236566.put' e236569 g0 rfl
  have k236572 : H236568 r0 11 = 0 := wq_u_s e236569
  refine wp_of e14 c14_25 (rw_aload_n (pc' := 26) (v := .ref r0) rfl rfl rfl ?_)
  refine wp_of e14 c14_26 (rw_iconst (pc' := 27) rfl ?_)
  refine wp_of e14 c14_27 (xp_I (pc' := 30) lf_7_56 w236570 g0 sh_27 (by decide) (by decide) ty_27_12 rfl rfl (by omega) (by omega) ⟨by omega, by omega⟩ rfl (fun H236573 e236574 w236575 => ?_))
  have f236576 := f236571.put' e236574 g0 rfl
  have k236577 : H236573 r0 12 = 0 := wq_u_s e236574
  refine wp_of e14 c14_30 (rw_aload_n (pc' := 31) (v := .ref r0) rfl rfl rfl ?_)
  refine wp_of e14 c14_31 (rw_iconst (pc' := 32) rfl ?_)
  refine wp_of e14 c14_32 (xp_I (pc' := 35) lf_7_59 w236575 g0 sh_27 (by decide) (by decide) ty_27_13 rfl rfl (by omega) (by omega) ⟨by omega, by omega⟩ rfl (fun H236578 e236579 w236580 => ?_))
  have f236581 := f236576.put' e236579 g0 rfl
  have k236582 : H236578 r0 13 = 0 := wq_u_s e236579
  refine wp_of e14 c14_35 (rw_aload_n (pc' := 36) (v := .ref r0) rfl rfl rfl ?_)
  refine wp_of e14 c14_36 (rw_iconst (pc' := 37) rfl ?_)
  refine wp_of e14 c14_37 (xp_I (pc' := 40) lf_7_62 w236580 g0 sh_27 (by decide) (by decide) ty_27_14 rfl rfl (by omega) (by omega) ⟨by omega, by omega⟩ rfl (fun H236583 e236584 w236585 => ?_))
  have f236586 := f236581.put' e236584 g0 rfl
  have k236587 : H236583 r0 14 = 0 := wq_u_s e236584
  refine wp_of e14 c14_40 (rw_aload_n (pc' := 41) (v := .ref r0) rfl rfl rfl ?_)
  refine wp_of e14 c14_41 (rw_bipush (pc' := 43) (z := -2) rfl (by decide) ?_)
  refine wp_of e14 c14_43 (xp_I (pc' := 46) lf_7_37 w236585 g0 sh_27 (by decide) (by decide) ty_27_15 rfl rfl (by omega) (by omega) ⟨by omega, by omega⟩ rfl (fun H236588 e236589 w236590 => ?_))
  have f236591 := f236586.put' e236589 g0 rfl
  have k236592 : H236588 r0 15 = -2 := wq_u_s e236589
  refine wp_of e14 c14_46 (rw_aload_n (pc' := 47) (v := .ref r0) rfl rfl rfl ?_)
  refine wp_of e14 c14_47 (rw_iconst (pc' := 48) rfl ?_)
  refine wp_of e14 c14_48 (xp_I (pc' := 51) lf_7_65 w236590 g0 sh_27 (by decide) (by decide) ty_27_16 rfl rfl (by omega) (by omega) ⟨by omega, by omega⟩ rfl (fun H236593 e236594 w236595 => ?_))
  have f236596 := f236591.put' e236594 g0 rfl
  have k236597 : H236593 r0 16 = 0 := wq_u_s e236594
  refine wp_of e14 c14_51 (rw_aload_n (pc' := 52) (v := .ref r0) rfl rfl rfl ?_)
  refine wp_of e14 c14_52 (rw_iconst (pc' := 53) rfl ?_)
  refine wp_of e14 c14_53 (xp_I (pc' := 56) lf_7_68 w236595 g0 sh_27 (by decide) (by decide) ty_27_17 rfl rfl (by omega) (by omega) ⟨by omega, by omega⟩ rfl (fun H236598 e236599 w236600 => ?_))
  have f236601 := f236596.put' e236599 g0 rfl
  have k236602 : H236598 r0 17 = 0 := wq_u_s e236599
  refine wp_of e14 c14_56 (rw_aload_n (pc' := 57) (v := .ref r0) rfl rfl rfl ?_)
  refine wp_of e14 c14_57 (rw_lconst (pc' := 58) (z := 0) rfl rfl ?_)
  refine wp_of e14 c14_58 (xp_L (pc' := 61) lf_7_71 w236600 g0 sh_27 (by decide) (by decide) ty_27_18 rfl rfl (by omega) (by omega) ⟨by omega, by omega⟩ rfl (fun H236603 e236604 w236605 => ?_))
  have f236606 := f236601.put' e236604 g0 rfl
  have k236607 : H236603 r0 18 = 0 := wq_u_s e236604
  refine wp_of e14 c14_61 (rw_iconst (pc' := 62) rfl ?_)
  refine wp_of e14 c14_62 (rw_istore_n (pc' := 63) (z := 0) (L' := [(1, vI 0), (0, .ref r0)]) rfl rfl rfl ?_)
  have lp236672 : ∀ (n236673 : Nat) (v236675 : Int) (H236676 : wq_H), WT T H236676 → wfr [(29, 999)] T H236603 H236676 → (0 ≤ v236675 ∧ v236675 ≤ 24) → SZ T H236676 r0 v236675 → (24 - v236675).toNat = n236673 → wp kt 0 14 63 [(1, vI v236675), (0, .ref r0)] [] T H236676 (uq_14 r0 T H) := by
    intro n236673
    induction n236673 using Nat.strongRecOn with
    | _ n236673 ih236674 =>
      intro v236675 H236676 w236677 f236678 b236679 h236681 m236680
      have f236682 := f236606.tr f236678 rfl
      refine wp_of e14 c14_63 (rw_iload_n (pc' := 64) (z := v236675) rfl rfl ?_)
      refine wp_of e14 c14_64 (rw_bipush (pc' := 66) (z := 24) rfl (by decide) ?_)
      refine wp_of e14 c14_66 (rw_icmp_ge (p1 := 83) (p2 := 69) (by decide) rfl ⟨by omega, by omega⟩ ⟨by omega, by omega⟩ (fun c236683 => ?_) (fun c236683 => ?_))
      · have k236684 : H236676 r0 7 = H236548 r0 7 := ((f236678 r0 7 _ g0 rfl).trans ((wq_u_j e236604 rfl).trans ((wq_u_j e236599 rfl).trans ((wq_u_j e236594 rfl).trans ((wq_u_j e236589 rfl).trans ((wq_u_j e236584 rfl).trans ((wq_u_j e236579 rfl).trans ((wq_u_j e236574 rfl).trans ((wq_u_j e236569 rfl).trans ((wq_u_j e236564 rfl).trans ((wq_u_j e236559 rfl).trans (wq_u_j e236554 rfl))))))))))))
        have k236685 : H236676 r0 8 = H236553 r0 8 := ((f236678 r0 8 _ g0 rfl).trans ((wq_u_j e236604 rfl).trans ((wq_u_j e236599 rfl).trans ((wq_u_j e236594 rfl).trans ((wq_u_j e236589 rfl).trans ((wq_u_j e236584 rfl).trans ((wq_u_j e236579 rfl).trans ((wq_u_j e236574 rfl).trans ((wq_u_j e236569 rfl).trans ((wq_u_j e236564 rfl).trans (wq_u_j e236559 rfl)))))))))))
        have k236686 : H236676 r0 9 = H236558 r0 9 := ((f236678 r0 9 _ g0 rfl).trans ((wq_u_j e236604 rfl).trans ((wq_u_j e236599 rfl).trans ((wq_u_j e236594 rfl).trans ((wq_u_j e236589 rfl).trans ((wq_u_j e236584 rfl).trans ((wq_u_j e236579 rfl).trans ((wq_u_j e236574 rfl).trans ((wq_u_j e236569 rfl).trans (wq_u_j e236564 rfl))))))))))
        have k236687 : H236676 r0 10 = H236563 r0 10 := ((f236678 r0 10 _ g0 rfl).trans ((wq_u_j e236604 rfl).trans ((wq_u_j e236599 rfl).trans ((wq_u_j e236594 rfl).trans ((wq_u_j e236589 rfl).trans ((wq_u_j e236584 rfl).trans ((wq_u_j e236579 rfl).trans ((wq_u_j e236574 rfl).trans (wq_u_j e236569 rfl)))))))))
        have k236688 : H236676 r0 11 = H236568 r0 11 := ((f236678 r0 11 _ g0 rfl).trans ((wq_u_j e236604 rfl).trans ((wq_u_j e236599 rfl).trans ((wq_u_j e236594 rfl).trans ((wq_u_j e236589 rfl).trans ((wq_u_j e236584 rfl).trans ((wq_u_j e236579 rfl).trans (wq_u_j e236574 rfl))))))))
        have k236689 : H236676 r0 12 = H236573 r0 12 := ((f236678 r0 12 _ g0 rfl).trans ((wq_u_j e236604 rfl).trans ((wq_u_j e236599 rfl).trans ((wq_u_j e236594 rfl).trans ((wq_u_j e236589 rfl).trans ((wq_u_j e236584 rfl).trans (wq_u_j e236579 rfl)))))))
        have k236690 : H236676 r0 13 = H236578 r0 13 := ((f236678 r0 13 _ g0 rfl).trans ((wq_u_j e236604 rfl).trans ((wq_u_j e236599 rfl).trans ((wq_u_j e236594 rfl).trans ((wq_u_j e236589 rfl).trans (wq_u_j e236584 rfl))))))
        have k236691 : H236676 r0 14 = H236583 r0 14 := ((f236678 r0 14 _ g0 rfl).trans ((wq_u_j e236604 rfl).trans ((wq_u_j e236599 rfl).trans ((wq_u_j e236594 rfl).trans (wq_u_j e236589 rfl)))))
        have k236692 : H236676 r0 15 = H236588 r0 15 := ((f236678 r0 15 _ g0 rfl).trans ((wq_u_j e236604 rfl).trans ((wq_u_j e236599 rfl).trans (wq_u_j e236594 rfl))))
        have k236693 : H236676 r0 16 = H236593 r0 16 := ((f236678 r0 16 _ g0 rfl).trans ((wq_u_j e236604 rfl).trans (wq_u_j e236599 rfl)))
        have _0 : xD0 0 0 = 0 ∧ xD0 0 1 = 0 ∧ xD0 0 2 = 0 ∧ xD0 0 3 = 0 ∧ xD0 0 4 = 0 ∧ xD0 0 5 = 0 ∧ xD0 0 6 = 0 ∧ xD0 0 7 = 0 ∧ xD0 0 8 = -1 ∧ xsx (xD0 0 8) = -2 ∧ xcn (xD0 13) 24 = 0 := ⟨rfl, rfl, rfl, rfl, rfl, rfl, rfl, rfl, rfl, rfl, rfl⟩
        exact wp_return e14 c14_83 rfl ⟨rfl, w236677, f236682, rfl, (DC_mk ⟨by omega, by omega, by omega, by omega, by omega, by omega, by omega, by omega, by omega, by omega, by omega, by omega, by omega, by omega, by omega, by omega⟩ (DQ_0 (by omega) (by omega)) (ST_z h236681 (by omega) (fun k _ => rfl)) (SV_z w236677 g0 (fun k => Int.le_refl _)) (DA_0 (n := 19) w236677 g0 rfl (by decide) rfl (Int.le_refl _)) (DA_0 (n := 19) w236677 g0 rfl (by decide) rfl (Int.le_refl _)) (DA_0 (n := 19) w236677 g0 rfl (by decide) rfl (Int.le_refl _)) (DA_0 (n := 19) w236677 g0 rfl (by decide) rfl (Int.le_refl _)) ⟨rfl, rfl, rfl, rfl, rfl⟩ ⟨rfl, rfl, rfl⟩)⟩
      · refine wp_of e14 c14_69 (rw_aload_n (pc' := 70) (v := .ref r0) rfl rfl rfl ?_)
        refine wp_of e14 c14_70 (xg_R (pc' := 73) lf_7_17 w236677 g0 sh_27 (by decide) (by decide) ty_27_1 rfl rfl (fun r236694 q236695 g236696 => ?_))
        refine wp_of e14 c14_73 (rw_iload_n (pc' := 74) (z := v236675) rfl rfl ?_)
        refine wp_of e14 c14_74 (rw_bipush (pc' := 76) (z := -2) rfl (by decide) ?_)
        refine wp_of e14 c14_76 (xs_I (pc' := 77) w236677 g236696 (by decide) sh_29 (by decide) (ty_29 _) (by omega) (by omega) ⟨by omega, by omega⟩ (by omega) (by omega) rfl (fun H236697 e236698 w236699 => ?_))
        have f236700 := f236682.put' e236698 g236696 rfl
        have f236701 := f236678.put' e236698 g236696 rfl
        have h236702 : SZ T H236697 r0 (v236675 + 1) := SZ_put h236681 q236695 g0 g236696 e236698 (by omega) rfl
        refine wp_of e14 c14_77 (rw_iinc (pc' := 80) (z := v236675) (L' := [(1, vI (v236675 + 1)), (0, .ref r0)]) rfl rfl rfl rfl ?_)
        refine wp_of e14 c14_80 (rw_goto (p1 := 63) (by decide) ?_)
        exact wp_lc (ks := [1, 0]) (wl_c rfl (wl_c rfl wl_n)) rfl (by decide) (ih236674 _ (by omega) (v236675 + 1) H236697 w236699 f236701 ⟨by omega, by omega⟩ h236702 rfl)
  have h236703 : SZ T H236603 r0 0 := SZ_0 w236605 g0
  exact wp_lc (ks := [1, 0]) (wl_c rfl (wl_c rfl wl_n)) rfl (by decide) (lp236672 _ 0 H236603 w236605 wfr.rf ⟨by omega, by omega⟩ h236703 rfl)
