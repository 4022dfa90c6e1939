/-! what methods do (own work, written by wip/gen3/sx3.py) -/
/-! StrikeAwakeModel.readStruck()V k -/
abbrev uq_199_k (r0 : Nat) (rp : Nat) (rb : Nat) (B : Nat → Int) (n : Int) (q : Int) (d : xD) (T : wq_T) (H : wq_H) : Option Value → wq_T → wq_H → Prop := fun r T' H' => T = T' ∧ WT T H' ∧ wfr [(42, 8), (42, 9), (42, 10), (42, 11), (42, 12), (42, 13), (42, 14), (42, 15), (42, 16), (67, 999)] T H H' ∧ none = r ∧ ((((xl5 B n q d).1 = 0) ∧ ((xl5 B n q d).2.2 = (xN B n (xN B n (xN B n (xN B n q))))) ∧ (q ≤ (xN B n (xN B n (xN B n (xN B n q))))) ∧ RC T H' r0 B n (xN B n (xN B n (xN B n (xN B n q)))) ∧ DM T H' rp r0 (xdst B n (xN B n q) d)) ∨ (((xl5 B n q d).1 ≠ 0) ∧ RO T H' r0 ((xl5 B n q d).1) ((xl5 B n q d).2.1)))
set_option maxHeartbeats 4000000 in
theorem u_199_k {kt : Nat → Option mc_E} {T : wq_T} {H : wq_H} {r0 : Nat} {rp : Nat} {rb : Nat} {B : Nat → Int} {n : Int} {q : Int} {d : xD} (hW : WT T H) (g0 : T.2.2.2 r0 = some 42) (qrp : H r0 4 = (rp : Int)) (grp : T.2.2.2 rp = some 54) (qrb : H r0 5 = (rb : Int)) (grb : T.2.2.2 rb = some 43) (p0 : xK B n q = 1) (hRC_r0 : RC T H r0 B n q) (hDM_rp : DM T H rp r0 d) : wpc kt 5 199 [.ref r0] T H (uq_199_k r0 rp rb B n q d T H) := by
  refine wp_enter e199 (Nat.le_of_ble_eq_true rfl) rfl ?_
  have f0 : wfr [(42, 8), (42, 9), (42, 10), (42, 11), (42, 12), (42, 13), (42, 14), (42, 15), (42, 16), (67, 999)] T H H := wfr.rf
  show wp _ _ 199 0 [(0, .ref r0)] [] _ H _
  have u258577 := RC_k hRC_r0
  have u258578 := DM_k hDM_rp
  have h258579 : MA9 T H rp (d 1) := hDM_rp.2.2.2.1
  have h258580 : MA10 T H rp (d 2) := hDM_rp.2.2.2.2.1
  have h258581 : MA11 T H rp (d 3) := hDM_rp.2.2.2.2.2.1
  have h258582 : MA12 T H rp (d 4) := hDM_rp.2.2.2.2.2.2.1
  have h258583 : MA13 T H rp (d 5) := hDM_rp.2.2.2.2.2.2.2.1
  have h258584 : MA14 T H rp (d 6) := hDM_rp.2.2.2.2.2.2.2.2.1
  have h258585 : MA15 T H rp (d 7) := hDM_rp.2.2.2.2.2.2.2.2.2.1
  have h258586 : MA16 T H rp (d 8) := hDM_rp.2.2.2.2.2.2.2.2.2.2.1
  have h258587 : MA17 T H rp (d 9) := hDM_rp.2.2.2.2.2.2.2.2.2.2.2.1
  have h258588 : MA18 T H rp (d 10) := hDM_rp.2.2.2.2.2.2.2.2.2.2.2.2.1
  have h258589 : MA19 T H rp (d 11) := hDM_rp.2.2.2.2.2.2.2.2.2.2.2.2.2.1
  have h258590 : MA20 T H rp (d 12) := hDM_rp.2.2.2.2.2.2.2.2.2.2.2.2.2.2.1
  have h258591 : MA21 T H rp (d 13) := hDM_rp.2.2.2.2.2.2.2.2.2.2.2.2.2.2.2.1
  have h258592 : MA22 T H rp (d 14) := hDM_rp.2.2.2.2.2.2.2.2.2.2.2.2.2.2.2.2.1
  have h258593 : MA23 T H rp (d 15) := hDM_rp.2.2.2.2.2.2.2.2.2.2.2.2.2.2.2.2.2.1
  have h258594 : MA25 T H rp (d 17) := hDM_rp.2.2.2.2.2.2.2.2.2.2.2.2.2.2.2.2.2.2.1
  have h258595 : MA26 T H rp (d 16) := hDM_rp.2.2.2.2.2.2.2.2.2.2.2.2.2.2.2.2.2.2.2
  refine wp_of e199 c199_0 (rw_aload_n (pc' := 1) (v := .ref r0) rfl rfl rfl ?_)
  refine wp_of e199 c199_1 (rw_aload_n (pc' := 2) (v := .ref r0) rfl rfl rfl ?_)
  refine wp_of e199 c199_2 (xg_I (pc' := 5) lf_9_293 hW g0 sh_42 (by decide) (by decide) ty_42_16 rfl rfl (fun b258596 b258597 => ?_))
  refine wp_of e199 c199_5 (rw_bipush (pc' := 7) (z := 24) rfl (by decide) ?_)
  refine wp_of e199 c199_7 (xc_V (pc' := 10) (r := r0) (as := [vI (H r0 16), vI 24]) (st := []) (lm_9_228) rfl rfl (Nat.le_of_ble_eq_true rfl) hW g0 sh_42 (by decide) rfl (by decide) (u_188_k (B := B) (n := n) (q := q) hW g0 ⟨by omega, by omega⟩ ⟨by omega, by omega⟩ qrb grb (by omega) hRC_r0) (fun R258598 T258599 H258600 p258601 => ?_))
  obtain ⟨e258602, w258604, f258605, e258603, p258606⟩ := p258601
  subst e258602
  subst e258603
  rcases p258606 with ⟨a258607, a258608⟩ | ⟨a258609, a258610⟩
  · have f258611 := f0.tr f258605 rfl
    show wp _ _ 199 10 [(0, .ref r0)] [] _ H258600 _
    have u258612 := RC_k a258608
    have _h := @xsh_b B n (xN B n q) d
    have _hb := @xh_b B n (xN B n q) 0 23
    have _vb := @xV_b2 B n (xN B n q)
    refine wp_of e199 c199_10 (rw_aload_n (pc' := 11) (v := .ref r0) rfl rfl rfl ?_)
    refine wp_of e199 c199_11 (rw_iconst (pc' := 12) rfl ?_)
    refine wp_of e199 c199_12 (rw_bipush (pc' := 14) (z := 23) rfl (by decide) ?_)
    refine wp_of e199 c199_14 (xc_V (pc' := 17) (r := r0) (as := [vI 0, vI 23]) (st := []) (lm_9_129) rfl rfl (Nat.le_of_ble_eq_true rfl) w258604 g0 sh_42 (by decide) rfl (by decide) (u_185_k (B := B) (n := n) (q := ((xN B n q))) (lo := 0) (hi := 23) w258604 g0 ⟨by omega, by omega⟩ ⟨by omega, by omega⟩ (by omega) (by omega) a258608) (fun R258613 T258614 H258615 p258616 => ?_))
    obtain ⟨e258617, w258619, f258620, z258621, e258618, b258622, p258623⟩ := p258616
    subst e258617
    subst e258618
    rcases p258623 with ⟨a258624, a258625, a258626, a258627, a258628⟩ | ⟨a258629, a258630, a258631⟩
    · have f258632 := f258611.tr f258620 rfl
      show wp _ _ 199 17 [(0, .ref r0)] [vI z258621] _ H258615 _
      have u258633 := RC_k a258628
      refine wp_of e199 c199_17 (rw_istore_n (pc' := 18) (z := z258621) (L' := [(1, vI z258621), (0, .ref r0)]) rfl rfl rfl ?_)
      refine wp_of e199 c199_18 (rw_aload_n (pc' := 19) (v := .ref r0) rfl rfl rfl ?_)
      refine wp_of e199 c199_19 (xg_I (pc' := 22) lf_9_75 w258619 g0 sh_42 (by decide) (by decide) ty_42_9 rfl rfl (fun b258634 b258635 => ?_))
      refine wp_of e199 c199_22 (rw_iconst (pc' := 23) rfl ?_)
      refine wp_of e199 c199_23 (rw_icmp_eq (p1 := 43) (p2 := 26) (by decide) rfl ⟨by omega, by omega⟩ ⟨by omega, by omega⟩ (fun c258636 => ?_) (fun c258636 => ?_))
      · exfalso
        omega
      · refine wp_of e199 c199_26 (rw_aload_n (pc' := 27) (v := .ref r0) rfl rfl rfl ?_)
        have k258637 : H258615 r0 4 = H r0 4 := ((f258620 r0 4 _ g0 rfl).trans (f258605 r0 4 _ g0 rfl))
        have q258638 : H258615 r0 4 = (rp : Int) := k258637.trans qrp
        refine wp_of e199 c199_27 (xg_K (pc' := 30) lf_9_166 w258619 g0 sh_42 (by decide) (by decide) rfl q258638 rfl ?_)
        refine wp_of e199 c199_30 (xg_R (pc' := 33) lf_9_296 w258619 grp sh_54 (by decide) (by decide) ty_54_21 rfl rfl (fun r258639 q258640 g258641 => ?_))
        refine wp_of e199 c199_33 (rw_iload_n (pc' := 34) (z := z258621) rfl rfl ?_)
        refine wp_of e199 c199_34 (xa_I (so := 0) (pc' := 35) w258619 g258641 sh_67 (by decide) (ty_67 _) (by omega) (by omega) rfl (fun b258642 b258643 => ?_))
        have h258644 : MA21 T H258615 rp (d 13) := (MA21_fr w258604 grp f258620 rfl (MA21_fr hW grp f258605 rfl h258591))
        have := MA_at h258644 q258640 (k := (z258621.toNat)) (by omega)
        have _c : d 13 (z258621.toNat) = d 13 (xV B n (xN B n q)).toNat := by rw [show z258621 = xV B n (xN B n q) by omega]
        refine wp_of e199 c199_35 (rw_if_le (p1 := 43) (p2 := 38) (by decide) rfl ⟨by omega, by omega⟩ (fun c258645 => ?_) (fun c258645 => ?_))
        · refine wp_of e199 c199_43 (rw_aload_n (pc' := 44) (v := .ref r0) rfl rfl rfl ?_)
          have k258646 : H258615 r0 5 = H r0 5 := ((f258620 r0 5 _ g0 rfl).trans (f258605 r0 5 _ g0 rfl))
          have q258647 : H258615 r0 5 = (rb : Int) := k258646.trans qrb
          have u258648 := RC_a a258628
          have h258649 : TM T H258615 rb B := RC_tm a258628 q258647
          refine wp_of e199 c199_44 (xc_V (pc' := 47) (r := r0) (as := []) (st := []) (lm_9_118) rfl rfl (Nat.le_of_ble_eq_true rfl) w258619 g0 sh_42 (by decide) rfl (by decide) (u_172_k (B := B) (n := n) (a := (xE B n ((xN B n q)))) (q := (xN B n ((xN B n q)))) w258619 g0 q258647 grb (by omega) (by omega) (by omega) (by omega) (by omega) (rfl) h258649) (fun R258650 T258651 H258652 p258653 => ?_))
          obtain ⟨e258654, w258656, f258657, e258655, p258658⟩ := p258653
          subst e258654
          subst e258655
          have f258660 := f258632.tr f258657 rfl
          show wp _ _ 199 47 [(1, vI z258621), (0, .ref r0)] [] _ H258652 _
          have u258661 := RC_k p258658
          refine wp_of e199 c199_47 (rw_aload_n (pc' := 48) (v := .ref r0) rfl rfl rfl ?_)
          refine wp_of e199 c199_48 (rw_ldc_wS (pc' := 51) (k := 89) rfl rfl rfl rfl ?_)
          refine wp_of e199 c199_51 (rw_iconst (pc' := 52) rfl ?_)
          refine wp_of e199 c199_52 (rw_bipush (pc' := 54) (z := 99) rfl (by decide) ?_)
          have k258662 : H258652 r0 5 = H258615 r0 5 := (f258657 r0 5 _ g0 rfl)
          have q258663 : H258652 r0 5 = (rb : Int) := k258662.trans q258647
          refine wp_of e199 c199_54 (xc_V (pc' := 57) (r := r0) (as := [.ref 89, vI 0, vI 99]) (st := []) (lm_9_216) rfl rfl (Nat.le_of_ble_eq_true rfl) w258656 g0 sh_42 (by decide) rfl (by decide) (u_182_k (B := B) (n := n) (q := ((xN B n ((xN B n q))))) (kk := 307) (lo := 0) (hi := 99) w258656 g0 rfl ⟨by omega, by omega⟩ ⟨by omega, by omega⟩ q258663 grb (by decide +kernel) (by omega) (by omega) p258658) (fun R258664 T258665 H258666 p258667 => ?_))
          obtain ⟨e258668, w258670, f258671, z258672, e258669, b258673, p258674⟩ := p258667
          subst e258668
          subst e258669
          rcases p258674 with ⟨a258675, a258676, a258677, a258678, a258679, a258680⟩ | ⟨a258681, a258682, a258683⟩ | ⟨a258684, a258685, a258686, a258687⟩
          · have f258688 := f258660.tr f258671 rfl
            show wp _ _ 199 57 [(1, vI z258621), (0, .ref r0)] [vI z258672] _ H258666 _
            have u258689 := RC_k a258680
            refine wp_of e199 c199_57 (rw_istore_n (pc' := 58) (z := z258672) (L' := [(2, vI z258672), (1, vI z258621), (0, .ref r0)]) rfl rfl rfl ?_)
            refine wp_of e199 c199_58 (rw_aload_n (pc' := 59) (v := .ref r0) rfl rfl rfl ?_)
            refine wp_of e199 c199_59 (xg_I (pc' := 62) lf_9_75 w258670 g0 sh_42 (by decide) (by decide) ty_42_9 rfl rfl (fun b258690 b258691 => ?_))
            refine wp_of e199 c199_62 (rw_iconst (pc' := 63) rfl ?_)
            refine wp_of e199 c199_63 (rw_icmp_ne (p1 := 67) (p2 := 66) (by decide) rfl ⟨by omega, by omega⟩ ⟨by omega, by omega⟩ (fun c258692 => ?_) (fun c258692 => ?_))
            · refine wp_of e199 c199_67 (rw_aload_n (pc' := 68) (v := .ref r0) rfl rfl rfl ?_)
              have k258693 : H258666 r0 4 = H258615 r0 4 := ((f258671 r0 4 _ g0 rfl).trans (f258657 r0 4 _ g0 rfl))
              have q258694 : H258666 r0 4 = (rp : Int) := k258693.trans q258638
              refine wp_of e199 c199_68 (xg_K (pc' := 71) lf_9_166 w258670 g0 sh_42 (by decide) (by decide) rfl q258694 rfl ?_)
              have k258695 : H258666 rp 21 = H258615 rp 21 := ((f258671 rp 21 _ grp rfl).trans (f258657 rp 21 _ grp rfl))
              have q258696 : H258666 rp 21 = (r258639 : Int) := k258695.trans q258640
              refine wp_of e199 c199_71 (xg_K (pc' := 74) lf_9_296 w258670 grp sh_54 (by decide) (by decide) rfl q258696 rfl ?_)
              refine wp_of e199 c199_74 (rw_iload_n (pc' := 75) (z := z258621) rfl rfl ?_)
              refine wp_of e199 c199_75 (rw_iload_n (pc' := 76) (z := z258672) rfl rfl ?_)
              refine wp_of e199 c199_76 (rw_iconst (pc' := 77) rfl ?_)
              refine wp_of e199 c199_77 (rw_iadd (pc' := 78) rfl ?_)
              have h258697 : MA21 T H258666 rp (d 13) := (MA21_fr w258656 grp f258671 rfl (MA21_fr w258619 grp f258657 rfl h258644))
              refine wp_of e199 c199_78 (xs_I (pc' := 79) w258670 g258641 (by decide) sh_67 (by decide) (ty_67 _) (by omega) (by omega) ⟨by omega, by omega⟩ (by omega) (by omega) rfl (fun H258698 e258699 w258700 => ?_))
              have f258701 := f258688.put' e258699 g258641 rfl
              have h258702 : MA21 T H258698 rp (xdst B n (xN B n q) d 13) := MA_put h258697 q258696 grp g258641 (by decide) e258699 ((xdst_c (k := (z258621.toNat)) (by omega)).1.trans (by omega)) (xdst_c (k := (z258621.toNat)) (by omega)).2
              refine wp_of e199 c199_79 (rw_aload_n (pc' := 80) (v := .ref r0) rfl rfl rfl ?_)
              refine wp_of e199 c199_80 (rw_dup (pc' := 81) rfl rfl ?_)
              have k258703 : H258698 r0 16 = H r0 16 := ((wq_u_t e258699 g258641 g0 rfl 16).trans ((f258671 r0 16 _ g0 rfl).trans ((f258657 r0 16 _ g0 rfl).trans ((f258620 r0 16 _ g0 rfl).trans (f258605 r0 16 _ g0 rfl)))))
              refine wp_of e199 c199_81 (xg_I (pc' := 84) lf_9_293 w258700 g0 sh_42 (by decide) (by decide) ty_42_16 rfl rfl (fun b258704 b258705 => ?_))
              refine wp_of e199 c199_84 (rw_iconst (pc' := 85) rfl ?_)
              refine wp_of e199 c199_85 (rw_iadd (pc' := 86) rfl ?_)
              refine wp_of e199 c199_86 (xp_I (pc' := 89) lf_9_293 w258700 g0 sh_42 (by decide) (by decide) ty_42_16 rfl rfl (by omega) (by omega) ⟨by omega, by omega⟩ rfl (fun H258706 e258707 w258708 => ?_))
              have f258709 := f258701.put' e258707 g0 rfl
              have k258710 : H258706 r0 16 = (H258698 r0 16) + 1 := wq_u_s e258707
              have k258711 : H258706 rp 0 = H rp 0 := ((wq_u_t e258707 g0 grp rfl 0).trans ((wq_u_t e258699 g258641 grp rfl 0).trans ((f258671 rp 0 _ grp rfl).trans ((f258657 rp 0 _ grp rfl).trans ((f258620 rp 0 _ grp rfl).trans (f258605 rp 0 _ grp rfl))))))
              have k258712 : H258706 rp 1 = H rp 1 := ((wq_u_t e258707 g0 grp rfl 1).trans ((wq_u_t e258699 g258641 grp rfl 1).trans ((f258671 rp 1 _ grp rfl).trans ((f258657 rp 1 _ grp rfl).trans ((f258620 rp 1 _ grp rfl).trans (f258605 rp 1 _ grp rfl))))))
              have k258713 : H258706 rp 2 = H rp 2 := ((wq_u_t e258707 g0 grp rfl 2).trans ((wq_u_t e258699 g258641 grp rfl 2).trans ((f258671 rp 2 _ grp rfl).trans ((f258657 rp 2 _ grp rfl).trans ((f258620 rp 2 _ grp rfl).trans (f258605 rp 2 _ grp rfl))))))
              have k258714 : H258706 rp 3 = H rp 3 := ((wq_u_t e258707 g0 grp rfl 3).trans ((wq_u_t e258699 g258641 grp rfl 3).trans ((f258671 rp 3 _ grp rfl).trans ((f258657 rp 3 _ grp rfl).trans ((f258620 rp 3 _ grp rfl).trans (f258605 rp 3 _ grp rfl))))))
              have k258715 : H258706 rp 4 = H rp 4 := ((wq_u_t e258707 g0 grp rfl 4).trans ((wq_u_t e258699 g258641 grp rfl 4).trans ((f258671 rp 4 _ grp rfl).trans ((f258657 rp 4 _ grp rfl).trans ((f258620 rp 4 _ grp rfl).trans (f258605 rp 4 _ grp rfl))))))
              have k258716 : H258706 rp 5 = H rp 5 := ((wq_u_t e258707 g0 grp rfl 5).trans ((wq_u_t e258699 g258641 grp rfl 5).trans ((f258671 rp 5 _ grp rfl).trans ((f258657 rp 5 _ grp rfl).trans ((f258620 rp 5 _ grp rfl).trans (f258605 rp 5 _ grp rfl))))))
              have k258717 : H258706 rp 6 = H rp 6 := ((wq_u_t e258707 g0 grp rfl 6).trans ((wq_u_t e258699 g258641 grp rfl 6).trans ((f258671 rp 6 _ grp rfl).trans ((f258657 rp 6 _ grp rfl).trans ((f258620 rp 6 _ grp rfl).trans (f258605 rp 6 _ grp rfl))))))
              have k258718 : H258706 rp 7 = H rp 7 := ((wq_u_t e258707 g0 grp rfl 7).trans ((wq_u_t e258699 g258641 grp rfl 7).trans ((f258671 rp 7 _ grp rfl).trans ((f258657 rp 7 _ grp rfl).trans ((f258620 rp 7 _ grp rfl).trans (f258605 rp 7 _ grp rfl))))))
              have k258719 : H258706 rp 8 = H rp 8 := ((wq_u_t e258707 g0 grp rfl 8).trans ((wq_u_t e258699 g258641 grp rfl 8).trans ((f258671 rp 8 _ grp rfl).trans ((f258657 rp 8 _ grp rfl).trans ((f258620 rp 8 _ grp rfl).trans (f258605 rp 8 _ grp rfl))))))
              have o258720 : (xl5 B n q d) = (0, (xN B n q), (xN B n (xN B n ((xN B n ((xN B n q))))))) := by
                unfold xl5 xst
                repeat first | rw [xs_0 (by omega)] | rw [xs_1 (by omega)] | rw [if_pos (by omega)] | rw [if_neg (by omega)]
                first | done | rfl | assumption | (exfalso; omega) | (refine Prod.ext ?_ (Prod.ext ?_ ?_) <;> (try dsimp only) <;> omega)
              have o258720a : ((xl5 B n q d)).1 = 0 := by rw [o258720]
              have o258720b : ((xl5 B n q d)).2.1 = (xN B n q) := by rw [o258720]
              have o258720c : ((xl5 B n q d)).2.2 = (xN B n (xN B n ((xN B n ((xN B n q)))))) := by rw [o258720]
              have _l := @xdst_v B n (xN B n q) d (by omega) (by omega) (by omega)
              have h258721 : RC T H258706 r0 B n (xN B n (xN B n ((xN B n ((xN B n q)))))) := (RC_fr w258700 g0 ((wfr.rf (l := [(42, 16)])).put' e258707 g0 rfl) rfl (RC_fr w258670 g0 ((wfr.rf (l := [(67, 999)])).put' e258699 g258641 rfl) rfl a258680))
              have h258722 : MA9 T H258706 rp (d 1) := (MA9_fr w258700 grp ((wfr.rf (l := [(42, 16)])).put' e258707 g0 rfl) rfl (MA9_fr w258670 grp ((wfr.rf (l := [(67, 999)])).put' e258699 g258641 rfl) rfl (MA9_fr w258656 grp f258671 rfl (MA9_fr w258619 grp f258657 rfl (MA9_fr w258604 grp f258620 rfl (MA9_fr hW grp f258605 rfl h258579))))))
              have h258723 : MA10 T H258706 rp (d 2) := (MA10_fr w258700 grp ((wfr.rf (l := [(42, 16)])).put' e258707 g0 rfl) rfl (MA10_fr w258670 grp ((wfr.rf (l := [(67, 999)])).put' e258699 g258641 rfl) rfl (MA10_fr w258656 grp f258671 rfl (MA10_fr w258619 grp f258657 rfl (MA10_fr w258604 grp f258620 rfl (MA10_fr hW grp f258605 rfl h258580))))))
              have h258724 : MA11 T H258706 rp (d 3) := (MA11_fr w258700 grp ((wfr.rf (l := [(42, 16)])).put' e258707 g0 rfl) rfl (MA11_fr w258670 grp ((wfr.rf (l := [(67, 999)])).put' e258699 g258641 rfl) rfl (MA11_fr w258656 grp f258671 rfl (MA11_fr w258619 grp f258657 rfl (MA11_fr w258604 grp f258620 rfl (MA11_fr hW grp f258605 rfl h258581))))))
              have h258725 : MA12 T H258706 rp (d 4) := (MA12_fr w258700 grp ((wfr.rf (l := [(42, 16)])).put' e258707 g0 rfl) rfl (MA12_fr w258670 grp ((wfr.rf (l := [(67, 999)])).put' e258699 g258641 rfl) rfl (MA12_fr w258656 grp f258671 rfl (MA12_fr w258619 grp f258657 rfl (MA12_fr w258604 grp f258620 rfl (MA12_fr hW grp f258605 rfl h258582))))))
              have h258726 : MA13 T H258706 rp (d 5) := (MA13_fr w258700 grp ((wfr.rf (l := [(42, 16)])).put' e258707 g0 rfl) rfl (MA13_fr w258670 grp ((wfr.rf (l := [(67, 999)])).put' e258699 g258641 rfl) rfl (MA13_fr w258656 grp f258671 rfl (MA13_fr w258619 grp f258657 rfl (MA13_fr w258604 grp f258620 rfl (MA13_fr hW grp f258605 rfl h258583))))))
              have h258727 : MA14 T H258706 rp (d 6) := (MA14_fr w258700 grp ((wfr.rf (l := [(42, 16)])).put' e258707 g0 rfl) rfl (MA14_fr w258670 grp ((wfr.rf (l := [(67, 999)])).put' e258699 g258641 rfl) rfl (MA14_fr w258656 grp f258671 rfl (MA14_fr w258619 grp f258657 rfl (MA14_fr w258604 grp f258620 rfl (MA14_fr hW grp f258605 rfl h258584))))))
              have h258728 : MA15 T H258706 rp (d 7) := (MA15_fr w258700 grp ((wfr.rf (l := [(42, 16)])).put' e258707 g0 rfl) rfl (MA15_fr w258670 grp ((wfr.rf (l := [(67, 999)])).put' e258699 g258641 rfl) rfl (MA15_fr w258656 grp f258671 rfl (MA15_fr w258619 grp f258657 rfl (MA15_fr w258604 grp f258620 rfl (MA15_fr hW grp f258605 rfl h258585))))))
              have h258729 : MA16 T H258706 rp (d 8) := (MA16_fr w258700 grp ((wfr.rf (l := [(42, 16)])).put' e258707 g0 rfl) rfl (MA16_fr w258670 grp ((wfr.rf (l := [(67, 999)])).put' e258699 g258641 rfl) rfl (MA16_fr w258656 grp f258671 rfl (MA16_fr w258619 grp f258657 rfl (MA16_fr w258604 grp f258620 rfl (MA16_fr hW grp f258605 rfl h258586))))))
              have h258730 : MA17 T H258706 rp (d 9) := (MA17_fr w258700 grp ((wfr.rf (l := [(42, 16)])).put' e258707 g0 rfl) rfl (MA17_fr w258670 grp ((wfr.rf (l := [(67, 999)])).put' e258699 g258641 rfl) rfl (MA17_fr w258656 grp f258671 rfl (MA17_fr w258619 grp f258657 rfl (MA17_fr w258604 grp f258620 rfl (MA17_fr hW grp f258605 rfl h258587))))))
              have h258731 : MA18 T H258706 rp (d 10) := (MA18_fr w258700 grp ((wfr.rf (l := [(42, 16)])).put' e258707 g0 rfl) rfl (MA18_fr w258670 grp ((wfr.rf (l := [(67, 999)])).put' e258699 g258641 rfl) rfl (MA18_fr w258656 grp f258671 rfl (MA18_fr w258619 grp f258657 rfl (MA18_fr w258604 grp f258620 rfl (MA18_fr hW grp f258605 rfl h258588))))))
              have h258732 : MA19 T H258706 rp (d 11) := (MA19_fr w258700 grp ((wfr.rf (l := [(42, 16)])).put' e258707 g0 rfl) rfl (MA19_fr w258670 grp ((wfr.rf (l := [(67, 999)])).put' e258699 g258641 rfl) rfl (MA19_fr w258656 grp f258671 rfl (MA19_fr w258619 grp f258657 rfl (MA19_fr w258604 grp f258620 rfl (MA19_fr hW grp f258605 rfl h258589))))))
              have h258733 : MA20 T H258706 rp (d 12) := (MA20_fr w258700 grp ((wfr.rf (l := [(42, 16)])).put' e258707 g0 rfl) rfl (MA20_fr w258670 grp ((wfr.rf (l := [(67, 999)])).put' e258699 g258641 rfl) rfl (MA20_fr w258656 grp f258671 rfl (MA20_fr w258619 grp f258657 rfl (MA20_fr w258604 grp f258620 rfl (MA20_fr hW grp f258605 rfl h258590))))))
              have h258734 : MA21 T H258706 rp (xdst B n (xN B n q) d 13) := (MA21_fr w258700 grp ((wfr.rf (l := [(42, 16)])).put' e258707 g0 rfl) rfl h258702)
              have h258735 : MA22 T H258706 rp (d 14) := (MA22_fr w258700 grp ((wfr.rf (l := [(42, 16)])).put' e258707 g0 rfl) rfl (MA22_fr w258670 grp ((wfr.rf (l := [(67, 999)])).put' e258699 g258641 rfl) rfl (MA22_fr w258656 grp f258671 rfl (MA22_fr w258619 grp f258657 rfl (MA22_fr w258604 grp f258620 rfl (MA22_fr hW grp f258605 rfl h258592))))))
              have h258736 : MA23 T H258706 rp (d 15) := (MA23_fr w258700 grp ((wfr.rf (l := [(42, 16)])).put' e258707 g0 rfl) rfl (MA23_fr w258670 grp ((wfr.rf (l := [(67, 999)])).put' e258699 g258641 rfl) rfl (MA23_fr w258656 grp f258671 rfl (MA23_fr w258619 grp f258657 rfl (MA23_fr w258604 grp f258620 rfl (MA23_fr hW grp f258605 rfl h258593))))))
              have h258737 : MA25 T H258706 rp (d 17) := (MA25_fr w258700 grp ((wfr.rf (l := [(42, 16)])).put' e258707 g0 rfl) rfl (MA25_fr w258670 grp ((wfr.rf (l := [(67, 999)])).put' e258699 g258641 rfl) rfl (MA25_fr w258656 grp f258671 rfl (MA25_fr w258619 grp f258657 rfl (MA25_fr w258604 grp f258620 rfl (MA25_fr hW grp f258605 rfl h258594))))))
              have h258738 : MA26 T H258706 rp (d 16) := (MA26_fr w258700 grp ((wfr.rf (l := [(42, 16)])).put' e258707 g0 rfl) rfl (MA26_fr w258670 grp ((wfr.rf (l := [(67, 999)])).put' e258699 g258641 rfl) rfl (MA26_fr w258656 grp f258671 rfl (MA26_fr w258619 grp f258657 rfl (MA26_fr w258604 grp f258620 rfl (MA26_fr hW grp f258605 rfl h258595))))))
              exact wp_return e199 c199_89 rfl ⟨rfl, w258708, f258709, rfl, (Or.inl ⟨by omega, by omega, by omega, h258721, DM_mk hDM_rp.1 ⟨by omega, by omega, by omega, by omega, by omega, by omega, by omega, by omega, by omega, by omega, by omega, by omega⟩ (xdP_cg hDM_rp.2.2.1 (fun i h1 h2 => by unfold xdst; rw [wq_u_row (by omega)])) h258722 h258723 h258724 h258725 h258726 h258727 h258728 h258729 h258730 h258731 h258732 h258733 h258734 h258735 h258736 h258737 h258738 ⟨(by unfold xdst; rw [wq_u_row (by decide)]), (by unfold xdst; rw [wq_u_row (by decide)]), (by unfold xdst; rw [wq_u_row (by decide)]), (by unfold xdst; rw [wq_u_row (by decide)]), (by unfold xdst; rw [wq_u_row (by decide)]), (by unfold xdst; rw [wq_u_row (by decide)]), (by unfold xdst; rw [wq_u_row (by decide)]), (by unfold xdst; rw [wq_u_row (by decide)]), (by unfold xdst; rw [wq_u_row (by decide)]), (by unfold xdst; rw [wq_u_row (by decide)]), (by unfold xdst; rw [wq_u_row (by decide)]), (by unfold xdst; rw [wq_u_row (by decide)]), rfl, (by unfold xdst; rw [wq_u_row (by decide)]), (by unfold xdst; rw [wq_u_row (by decide)]), (by unfold xdst; rw [wq_u_row (by decide)]), (by unfold xdst; rw [wq_u_row (by decide)])⟩⟩)⟩
            · exfalso
              omega
          · have f258739 := f258660.tr f258671 rfl
            show wp _ _ 199 57 [(1, vI z258621), (0, .ref r0)] [vI z258672] _ H258666 _
            have u258740 := RO_k a258683
            refine wp_of e199 c199_57 (rw_istore_n (pc' := 58) (z := z258672) (L' := [(2, vI z258672), (1, vI z258621), (0, .ref r0)]) rfl rfl rfl ?_)
            refine wp_of e199 c199_58 (rw_aload_n (pc' := 59) (v := .ref r0) rfl rfl rfl ?_)
            refine wp_of e199 c199_59 (xg_I (pc' := 62) lf_9_75 w258670 g0 sh_42 (by decide) (by decide) ty_42_9 rfl rfl (fun b258741 b258742 => ?_))
            refine wp_of e199 c199_62 (rw_iconst (pc' := 63) rfl ?_)
            refine wp_of e199 c199_63 (rw_icmp_ne (p1 := 67) (p2 := 66) (by decide) rfl ⟨by omega, by omega⟩ ⟨by omega, by omega⟩ (fun c258743 => ?_) (fun c258743 => ?_))
            · exfalso
              omega
            · have o258744 : (xl5 B n q d) = (xw B n ((xN B n ((xN B n q)))) 307, ((xN B n ((xN B n q)))), ((xN B n ((xN B n q))))) := by
                unfold xl5 xst
                repeat first | rw [xs_0 (by omega)] | rw [xs_1 (by omega)] | rw [if_pos (by omega)] | rw [if_neg (by omega)]
                first | done | rfl | assumption | (exfalso; omega) | (refine Prod.ext ?_ (Prod.ext ?_ ?_) <;> (try dsimp only) <;> omega)
              have o258744a : ((xl5 B n q d)).1 = xw B n ((xN B n ((xN B n q)))) 307 := by rw [o258744]
              have o258744b : ((xl5 B n q d)).2.1 = ((xN B n ((xN B n q)))) := by rw [o258744]
              have o258744c : ((xl5 B n q d)).2.2 = ((xN B n ((xN B n q)))) := by rw [o258744]
              exact wp_return e199 c199_66 rfl ⟨rfl, w258670, f258739, rfl, (Or.inr ⟨by omega, RO_eq a258683 (by omega) (by omega)⟩)⟩
          · have f258745 := f258660.tr f258671 rfl
            show wp _ _ 199 57 [(1, vI z258621), (0, .ref r0)] [vI z258672] _ H258666 _
            have u258746 := RO_k a258687
            refine wp_of e199 c199_57 (rw_istore_n (pc' := 58) (z := z258672) (L' := [(2, vI z258672), (1, vI z258621), (0, .ref r0)]) rfl rfl rfl ?_)
            refine wp_of e199 c199_58 (rw_aload_n (pc' := 59) (v := .ref r0) rfl rfl rfl ?_)
            refine wp_of e199 c199_59 (xg_I (pc' := 62) lf_9_75 w258670 g0 sh_42 (by decide) (by decide) ty_42_9 rfl rfl (fun b258747 b258748 => ?_))
            refine wp_of e199 c199_62 (rw_iconst (pc' := 63) rfl ?_)
            refine wp_of e199 c199_63 (rw_icmp_ne (p1 := 67) (p2 := 66) (by decide) rfl ⟨by omega, by omega⟩ ⟨by omega, by omega⟩ (fun c258749 => ?_) (fun c258749 => ?_))
            · exfalso
              omega
            · have o258750 : (xl5 B n q d) = (xh B n (xN B n ((xN B n ((xN B n q))))) 0 99, (xN B n ((xN B n ((xN B n q))))), (xN B n ((xN B n ((xN B n q)))))) := by
                unfold xl5 xst
                repeat first | rw [xs_0 (by omega)] | rw [xs_1 (by omega)] | rw [if_pos (by omega)] | rw [if_neg (by omega)]
                first | done | rfl | assumption | (exfalso; omega) | (refine Prod.ext ?_ (Prod.ext ?_ ?_) <;> (try dsimp only) <;> omega)
              have o258750a : ((xl5 B n q d)).1 = xh B n (xN B n ((xN B n ((xN B n q))))) 0 99 := by rw [o258750]
              have o258750b : ((xl5 B n q d)).2.1 = (xN B n ((xN B n ((xN B n q))))) := by rw [o258750]
              have o258750c : ((xl5 B n q d)).2.2 = (xN B n ((xN B n ((xN B n q))))) := by rw [o258750]
              exact wp_return e199 c199_66 rfl ⟨rfl, w258670, f258745, rfl, (Or.inr ⟨by omega, RO_eq a258687 (by omega) (by omega)⟩)⟩
        · refine wp_of e199 c199_38 (rw_aload_n (pc' := 39) (v := .ref r0) rfl rfl rfl ?_)
          refine wp_of e199 c199_39 (rw_iconst (pc' := 40) rfl ?_)
          refine wp_of e199 c199_40 (xc_V (pc' := 43) (r := r0) (as := [vI 3]) (st := []) (lm_9_121) rfl rfl (Nat.le_of_ble_eq_true rfl) w258619 g0 sh_42 (by decide) rfl (by decide) (u_181_k (B := B) (n := n) (q := ((xN B n q))) w258619 g0 ⟨by omega, by omega⟩ (by omega) a258628) (fun R258751 T258752 H258753 p258754 => ?_))
          obtain ⟨e258755, w258757, f258758, e258756, p258759⟩ := p258754
          subst e258755
          subst e258756
          have f258761 := f258632.tr f258758 rfl
          show wp _ _ 199 43 [(1, vI z258621), (0, .ref r0)] [] _ H258753 _
          have u258762 := RO_k p258759
          refine wp_of e199 c199_43 (rw_aload_n (pc' := 44) (v := .ref r0) rfl rfl rfl ?_)
          refine wp_of e199 c199_44 (xc_V (pc' := 47) (r := r0) (as := []) (st := []) (lm_9_118) rfl rfl (Nat.le_of_ble_eq_true rfl) w258757 g0 sh_42 (by decide) rfl (by decide) (u_172_o (fo := 3) (po := (((xN B n q)))) w258757 g0 p258759) (fun R258763 T258764 H258765 p258766 => ?_))
          obtain ⟨e258767, e258769, e258768, p258770⟩ := p258766
          subst e258767
          subst e258768
          subst e258769
          show wp _ _ 199 47 [(1, vI z258621), (0, .ref r0)] [] _ H258753 _
          have u258772 := RO_k p258770
          refine wp_of e199 c199_47 (rw_aload_n (pc' := 48) (v := .ref r0) rfl rfl rfl ?_)
          refine wp_of e199 c199_48 (rw_ldc_wS (pc' := 51) (k := 89) rfl rfl rfl rfl ?_)
          refine wp_of e199 c199_51 (rw_iconst (pc' := 52) rfl ?_)
          refine wp_of e199 c199_52 (rw_bipush (pc' := 54) (z := 99) rfl (by decide) ?_)
          have k258773 : H258753 r0 5 = H r0 5 := ((f258758 r0 5 _ g0 rfl).trans ((f258620 r0 5 _ g0 rfl).trans (f258605 r0 5 _ g0 rfl)))
          have q258774 : H258753 r0 5 = (rb : Int) := k258773.trans qrb
          refine wp_of e199 c199_54 (xc_V (pc' := 57) (r := r0) (as := [.ref 89, vI 0, vI 99]) (st := []) (lm_9_216) rfl rfl (Nat.le_of_ble_eq_true rfl) w258757 g0 sh_42 (by decide) rfl (by decide) (u_182_o (fo := 3) (po := (((xN B n q)))) (kk := 307) w258757 g0 rfl ⟨by omega, by omega⟩ ⟨by omega, by omega⟩ q258774 grb (by decide +kernel) p258770) (fun R258775 T258776 H258777 p258778 => ?_))
          obtain ⟨e258779, e258781, z258782, e258780, b258783, p258784⟩ := p258778
          subst e258779
          subst e258780
          subst e258781
          obtain ⟨a258785, a258786⟩ := p258784
          show wp _ _ 199 57 [(1, vI z258621), (0, .ref r0)] [vI z258782] _ H258753 _
          have u258787 := RO_k a258786
          refine wp_of e199 c199_57 (rw_istore_n (pc' := 58) (z := z258782) (L' := [(2, vI z258782), (1, vI z258621), (0, .ref r0)]) rfl rfl rfl ?_)
          refine wp_of e199 c199_58 (rw_aload_n (pc' := 59) (v := .ref r0) rfl rfl rfl ?_)
          refine wp_of e199 c199_59 (xg_I (pc' := 62) lf_9_75 w258757 g0 sh_42 (by decide) (by decide) ty_42_9 rfl rfl (fun b258788 b258789 => ?_))
          refine wp_of e199 c199_62 (rw_iconst (pc' := 63) rfl ?_)
          refine wp_of e199 c199_63 (rw_icmp_ne (p1 := 67) (p2 := 66) (by decide) rfl ⟨by omega, by omega⟩ ⟨by omega, by omega⟩ (fun c258790 => ?_) (fun c258790 => ?_))
          · exfalso
            omega
          · have o258791 : (xl5 B n q d) = (xsh B n (xN B n q) d, (xN B n q), (xN B n q)) := by
              unfold xl5 xst
              repeat first | rw [xs_0 (by omega)] | rw [xs_1 (by omega)] | rw [if_pos (by omega)] | rw [if_neg (by omega)]
              first | done | rfl | assumption | (exfalso; omega) | (refine Prod.ext ?_ (Prod.ext ?_ ?_) <;> (try dsimp only) <;> omega)
            have o258791a : ((xl5 B n q d)).1 = xsh B n (xN B n q) d := by rw [o258791]
            have o258791b : ((xl5 B n q d)).2.1 = (xN B n q) := by rw [o258791]
            have o258791c : ((xl5 B n q d)).2.2 = (xN B n q) := by rw [o258791]
            exact wp_return e199 c199_66 rfl ⟨rfl, w258757, f258761, rfl, (Or.inr ⟨by omega, RO_eq a258786 (by omega) (by omega)⟩)⟩
    · have f258792 := f258611.tr f258620 rfl
      show wp _ _ 199 17 [(0, .ref r0)] [vI z258621] _ H258615 _
      have u258793 := RO_k a258631
      refine wp_of e199 c199_17 (rw_istore_n (pc' := 18) (z := z258621) (L' := [(1, vI z258621), (0, .ref r0)]) rfl rfl rfl ?_)
      refine wp_of e199 c199_18 (rw_aload_n (pc' := 19) (v := .ref r0) rfl rfl rfl ?_)
      refine wp_of e199 c199_19 (xg_I (pc' := 22) lf_9_75 w258619 g0 sh_42 (by decide) (by decide) ty_42_9 rfl rfl (fun b258794 b258795 => ?_))
      refine wp_of e199 c199_22 (rw_iconst (pc' := 23) rfl ?_)
      refine wp_of e199 c199_23 (rw_icmp_eq (p1 := 43) (p2 := 26) (by decide) rfl ⟨by omega, by omega⟩ ⟨by omega, by omega⟩ (fun c258796 => ?_) (fun c258796 => ?_))
      · refine wp_of e199 c199_43 (rw_aload_n (pc' := 44) (v := .ref r0) rfl rfl rfl ?_)
        refine wp_of e199 c199_44 (xc_V (pc' := 47) (r := r0) (as := []) (st := []) (lm_9_118) rfl rfl (Nat.le_of_ble_eq_true rfl) w258619 g0 sh_42 (by decide) rfl (by decide) (u_172_o (fo := (xh B n ((xN B n q)) 0 23)) (po := (((xN B n q)))) w258619 g0 a258631) (fun R258797 T258798 H258799 p258800 => ?_))
        obtain ⟨e258801, e258803, e258802, p258804⟩ := p258800
        subst e258801
        subst e258802
        subst e258803
        show wp _ _ 199 47 [(1, vI z258621), (0, .ref r0)] [] _ H258615 _
        have u258806 := RO_k p258804
        refine wp_of e199 c199_47 (rw_aload_n (pc' := 48) (v := .ref r0) rfl rfl rfl ?_)
        refine wp_of e199 c199_48 (rw_ldc_wS (pc' := 51) (k := 89) rfl rfl rfl rfl ?_)
        refine wp_of e199 c199_51 (rw_iconst (pc' := 52) rfl ?_)
        refine wp_of e199 c199_52 (rw_bipush (pc' := 54) (z := 99) rfl (by decide) ?_)
        have k258807 : H258615 r0 5 = H r0 5 := ((f258620 r0 5 _ g0 rfl).trans (f258605 r0 5 _ g0 rfl))
        have q258808 : H258615 r0 5 = (rb : Int) := k258807.trans qrb
        refine wp_of e199 c199_54 (xc_V (pc' := 57) (r := r0) (as := [.ref 89, vI 0, vI 99]) (st := []) (lm_9_216) rfl rfl (Nat.le_of_ble_eq_true rfl) w258619 g0 sh_42 (by decide) rfl (by decide) (u_182_o (fo := (xh B n ((xN B n q)) 0 23)) (po := (((xN B n q)))) (kk := 307) w258619 g0 rfl ⟨by omega, by omega⟩ ⟨by omega, by omega⟩ q258808 grb (by decide +kernel) p258804) (fun R258809 T258810 H258811 p258812 => ?_))
        obtain ⟨e258813, e258815, z258816, e258814, b258817, p258818⟩ := p258812
        subst e258813
        subst e258814
        subst e258815
        obtain ⟨a258819, a258820⟩ := p258818
        show wp _ _ 199 57 [(1, vI z258621), (0, .ref r0)] [vI z258816] _ H258615 _
        have u258821 := RO_k a258820
        refine wp_of e199 c199_57 (rw_istore_n (pc' := 58) (z := z258816) (L' := [(2, vI z258816), (1, vI z258621), (0, .ref r0)]) rfl rfl rfl ?_)
        refine wp_of e199 c199_58 (rw_aload_n (pc' := 59) (v := .ref r0) rfl rfl rfl ?_)
        refine wp_of e199 c199_59 (xg_I (pc' := 62) lf_9_75 w258619 g0 sh_42 (by decide) (by decide) ty_42_9 rfl rfl (fun b258822 b258823 => ?_))
        refine wp_of e199 c199_62 (rw_iconst (pc' := 63) rfl ?_)
        refine wp_of e199 c199_63 (rw_icmp_ne (p1 := 67) (p2 := 66) (by decide) rfl ⟨by omega, by omega⟩ ⟨by omega, by omega⟩ (fun c258824 => ?_) (fun c258824 => ?_))
        · exfalso
          omega
        · have o258825 : (xl5 B n q d) = (xsh B n (xN B n q) d, (xN B n q), (xN B n q)) := by
            unfold xl5 xst
            repeat first | rw [xs_0 (by omega)] | rw [xs_1 (by omega)] | rw [if_pos (by omega)] | rw [if_neg (by omega)]
            first | done | rfl | assumption | (exfalso; omega) | (refine Prod.ext ?_ (Prod.ext ?_ ?_) <;> (try dsimp only) <;> omega)
          have o258825a : ((xl5 B n q d)).1 = xsh B n (xN B n q) d := by rw [o258825]
          have o258825b : ((xl5 B n q d)).2.1 = (xN B n q) := by rw [o258825]
          have o258825c : ((xl5 B n q d)).2.2 = (xN B n q) := by rw [o258825]
          exact wp_return e199 c199_66 rfl ⟨rfl, w258619, f258792, rfl, (Or.inr ⟨by omega, RO_eq a258820 (by omega) (by omega)⟩)⟩
      · exfalso
        omega
  · have f258826 := f0.tr f258605 rfl
    show wp _ _ 199 10 [(0, .ref r0)] [] _ H258600 _
    have u258827 := RO_k a258610
    refine wp_of e199 c199_10 (rw_aload_n (pc' := 11) (v := .ref r0) rfl rfl rfl ?_)
    refine wp_of e199 c199_11 (rw_iconst (pc' := 12) rfl ?_)
    refine wp_of e199 c199_12 (rw_bipush (pc' := 14) (z := 23) rfl (by decide) ?_)
    refine wp_of e199 c199_14 (xc_V (pc' := 17) (r := r0) (as := [vI 0, vI 23]) (st := []) (lm_9_129) rfl rfl (Nat.le_of_ble_eq_true rfl) w258604 g0 sh_42 (by decide) rfl (by decide) (u_185_o (fo := 5) (po := q) w258604 g0 ⟨by omega, by omega⟩ ⟨by omega, by omega⟩ a258610) (fun R258828 T258829 H258830 p258831 => ?_))
    obtain ⟨e258832, e258834, z258835, e258833, b258836, p258837⟩ := p258831
    subst e258832
    subst e258833
    subst e258834
    obtain ⟨a258838, a258839⟩ := p258837
    show wp _ _ 199 17 [(0, .ref r0)] [vI z258835] _ H258600 _
    have u258840 := RO_k a258839
    refine wp_of e199 c199_17 (rw_istore_n (pc' := 18) (z := z258835) (L' := [(1, vI z258835), (0, .ref r0)]) rfl rfl rfl ?_)
    refine wp_of e199 c199_18 (rw_aload_n (pc' := 19) (v := .ref r0) rfl rfl rfl ?_)
    refine wp_of e199 c199_19 (xg_I (pc' := 22) lf_9_75 w258604 g0 sh_42 (by decide) (by decide) ty_42_9 rfl rfl (fun b258841 b258842 => ?_))
    refine wp_of e199 c199_22 (rw_iconst (pc' := 23) rfl ?_)
    refine wp_of e199 c199_23 (rw_icmp_eq (p1 := 43) (p2 := 26) (by decide) rfl ⟨by omega, by omega⟩ ⟨by omega, by omega⟩ (fun c258843 => ?_) (fun c258843 => ?_))
    · refine wp_of e199 c199_43 (rw_aload_n (pc' := 44) (v := .ref r0) rfl rfl rfl ?_)
      refine wp_of e199 c199_44 (xc_V (pc' := 47) (r := r0) (as := []) (st := []) (lm_9_118) rfl rfl (Nat.le_of_ble_eq_true rfl) w258604 g0 sh_42 (by decide) rfl (by decide) (u_172_o (fo := 5) (po := q) w258604 g0 a258839) (fun R258844 T258845 H258846 p258847 => ?_))
      obtain ⟨e258848, e258850, e258849, p258851⟩ := p258847
      subst e258848
      subst e258849
      subst e258850
      show wp _ _ 199 47 [(1, vI z258835), (0, .ref r0)] [] _ H258600 _
      have u258853 := RO_k p258851
      refine wp_of e199 c199_47 (rw_aload_n (pc' := 48) (v := .ref r0) rfl rfl rfl ?_)
      refine wp_of e199 c199_48 (rw_ldc_wS (pc' := 51) (k := 89) rfl rfl rfl rfl ?_)
      refine wp_of e199 c199_51 (rw_iconst (pc' := 52) rfl ?_)
      refine wp_of e199 c199_52 (rw_bipush (pc' := 54) (z := 99) rfl (by decide) ?_)
      have k258854 : H258600 r0 5 = H r0 5 := (f258605 r0 5 _ g0 rfl)
      have q258855 : H258600 r0 5 = (rb : Int) := k258854.trans qrb
      refine wp_of e199 c199_54 (xc_V (pc' := 57) (r := r0) (as := [.ref 89, vI 0, vI 99]) (st := []) (lm_9_216) rfl rfl (Nat.le_of_ble_eq_true rfl) w258604 g0 sh_42 (by decide) rfl (by decide) (u_182_o (fo := 5) (po := q) (kk := 307) w258604 g0 rfl ⟨by omega, by omega⟩ ⟨by omega, by omega⟩ q258855 grb (by decide +kernel) p258851) (fun R258856 T258857 H258858 p258859 => ?_))
      obtain ⟨e258860, e258862, z258863, e258861, b258864, p258865⟩ := p258859
      subst e258860
      subst e258861
      subst e258862
      obtain ⟨a258866, a258867⟩ := p258865
      show wp _ _ 199 57 [(1, vI z258835), (0, .ref r0)] [vI z258863] _ H258600 _
      have u258868 := RO_k a258867
      refine wp_of e199 c199_57 (rw_istore_n (pc' := 58) (z := z258863) (L' := [(2, vI z258863), (1, vI z258835), (0, .ref r0)]) rfl rfl rfl ?_)
      refine wp_of e199 c199_58 (rw_aload_n (pc' := 59) (v := .ref r0) rfl rfl rfl ?_)
      refine wp_of e199 c199_59 (xg_I (pc' := 62) lf_9_75 w258604 g0 sh_42 (by decide) (by decide) ty_42_9 rfl rfl (fun b258869 b258870 => ?_))
      refine wp_of e199 c199_62 (rw_iconst (pc' := 63) rfl ?_)
      refine wp_of e199 c199_63 (rw_icmp_ne (p1 := 67) (p2 := 66) (by decide) rfl ⟨by omega, by omega⟩ ⟨by omega, by omega⟩ (fun c258871 => ?_) (fun c258871 => ?_))
      · exfalso
        omega
      · have o258872 : (xl5 B n q d) = (5, q, q) := by
          unfold xl5 xst
          repeat first | rw [xs_0 (by omega)] | rw [xs_1 (by omega)] | rw [if_pos (by omega)] | rw [if_neg (by omega)]
          first | done | rfl | assumption | (exfalso; omega) | (refine Prod.ext ?_ (Prod.ext ?_ ?_) <;> (try dsimp only) <;> omega)
        have o258872a : ((xl5 B n q d)).1 = 5 := by rw [o258872]
        have o258872b : ((xl5 B n q d)).2.1 = q := by rw [o258872]
        have o258872c : ((xl5 B n q d)).2.2 = q := by rw [o258872]
        exact wp_return e199 c199_66 rfl ⟨rfl, w258604, f258826, rfl, (Or.inr ⟨by omega, RO_eq a258867 (by omega) (by omega)⟩)⟩
    · exfalso
      omega
/-! StrikeAwakeModel.readStruck()V o -/
abbrev uq_199_o (r0 : Nat) (rp : Nat) (rb : Nat) (fo : Int) (po : Int) (T : wq_T) (H : wq_H) : Option Value → wq_T → wq_H → Prop := fun r T' H' => T = T' ∧ H = H' ∧ none = r ∧ ((RO T H r0 fo po))
set_option maxHeartbeats 4000000 in
theorem u_199_o {kt : Nat → Option mc_E} {T : wq_T} {H : wq_H} {r0 : Nat} {rp : Nat} {rb : Nat} {fo : Int} {po : Int} (hW : WT T H) (g0 : T.2.2.2 r0 = some 42) (qrp : H r0 4 = (rp : Int)) (grp : T.2.2.2 rp = some 54) (qrb : H r0 5 = (rb : Int)) (grb : T.2.2.2 rb = some 43) (hRO_r0 : RO T H r0 fo po) : wpc kt 5 199 [.ref r0] T H (uq_199_o r0 rp rb fo po T H) := by
  refine wp_enter e199 (Nat.le_of_ble_eq_true rfl) rfl ?_
  show wp _ _ 199 0 [(0, .ref r0)] [] _ H _
  have u258923 := RO_k hRO_r0
  refine wp_of e199 c199_0 (rw_aload_n (pc' := 1) (v := .ref r0) rfl rfl rfl ?_)
  refine wp_of e199 c199_1 (rw_aload_n (pc' := 2) (v := .ref r0) rfl rfl rfl ?_)
  refine wp_of e199 c199_2 (xg_I (pc' := 5) lf_9_293 hW g0 sh_42 (by decide) (by decide) ty_42_16 rfl rfl (fun b258924 b258925 => ?_))
  refine wp_of e199 c199_5 (rw_bipush (pc' := 7) (z := 24) rfl (by decide) ?_)
  refine wp_of e199 c199_7 (xc_V (pc' := 10) (r := r0) (as := [vI (H r0 16), vI 24]) (st := []) (lm_9_228) rfl rfl (Nat.le_of_ble_eq_true rfl) hW g0 sh_42 (by decide) rfl (by decide) (u_188_o (fo := fo) (po := po) hW g0 ⟨by omega, by omega⟩ ⟨by omega, by omega⟩ qrb grb hRO_r0) (fun R258926 T258927 H258928 p258929 => ?_))
  obtain ⟨e258930, e258932, e258931, p258933⟩ := p258929
  subst e258930
  subst e258931
  subst e258932
  show wp _ _ 199 10 [(0, .ref r0)] [] _ H _
  have u258935 := RO_k p258933
  refine wp_of e199 c199_10 (rw_aload_n (pc' := 11) (v := .ref r0) rfl rfl rfl ?_)
  refine wp_of e199 c199_11 (rw_iconst (pc' := 12) rfl ?_)
  refine wp_of e199 c199_12 (rw_bipush (pc' := 14) (z := 23) rfl (by decide) ?_)
  refine wp_of e199 c199_14 (xc_V (pc' := 17) (r := r0) (as := [vI 0, vI 23]) (st := []) (lm_9_129) rfl rfl (Nat.le_of_ble_eq_true rfl) hW g0 sh_42 (by decide) rfl (by decide) (u_185_o (fo := fo) (po := po) hW g0 ⟨by omega, by omega⟩ ⟨by omega, by omega⟩ p258933) (fun R258936 T258937 H258938 p258939 => ?_))
  obtain ⟨e258940, e258942, z258943, e258941, b258944, p258945⟩ := p258939
  subst e258940
  subst e258941
  subst e258942
  obtain ⟨a258946, a258947⟩ := p258945
  show wp _ _ 199 17 [(0, .ref r0)] [vI z258943] _ H _
  have u258948 := RO_k a258947
  refine wp_of e199 c199_17 (rw_istore_n (pc' := 18) (z := z258943) (L' := [(1, vI z258943), (0, .ref r0)]) rfl rfl rfl ?_)
  refine wp_of e199 c199_18 (rw_aload_n (pc' := 19) (v := .ref r0) rfl rfl rfl ?_)
  refine wp_of e199 c199_19 (xg_I (pc' := 22) lf_9_75 hW g0 sh_42 (by decide) (by decide) ty_42_9 rfl rfl (fun b258949 b258950 => ?_))
  refine wp_of e199 c199_22 (rw_iconst (pc' := 23) rfl ?_)
  refine wp_of e199 c199_23 (rw_icmp_eq (p1 := 43) (p2 := 26) (by decide) rfl ⟨by omega, by omega⟩ ⟨by omega, by omega⟩ (fun c258951 => ?_) (fun c258951 => ?_))
  · refine wp_of e199 c199_43 (rw_aload_n (pc' := 44) (v := .ref r0) rfl rfl rfl ?_)
    refine wp_of e199 c199_44 (xc_V (pc' := 47) (r := r0) (as := []) (st := []) (lm_9_118) rfl rfl (Nat.le_of_ble_eq_true rfl) hW g0 sh_42 (by decide) rfl (by decide) (u_172_o (fo := fo) (po := po) hW g0 a258947) (fun R258952 T258953 H258954 p258955 => ?_))
    obtain ⟨e258956, e258958, e258957, p258959⟩ := p258955
    subst e258956
    subst e258957
    subst e258958
    show wp _ _ 199 47 [(1, vI z258943), (0, .ref r0)] [] _ H _
    have u258961 := RO_k p258959
    refine wp_of e199 c199_47 (rw_aload_n (pc' := 48) (v := .ref r0) rfl rfl rfl ?_)
    refine wp_of e199 c199_48 (rw_ldc_wS (pc' := 51) (k := 89) rfl rfl rfl rfl ?_)
    refine wp_of e199 c199_51 (rw_iconst (pc' := 52) rfl ?_)
    refine wp_of e199 c199_52 (rw_bipush (pc' := 54) (z := 99) rfl (by decide) ?_)
    refine wp_of e199 c199_54 (xc_V (pc' := 57) (r := r0) (as := [.ref 89, vI 0, vI 99]) (st := []) (lm_9_216) rfl rfl (Nat.le_of_ble_eq_true rfl) hW g0 sh_42 (by decide) rfl (by decide) (u_182_o (fo := fo) (po := po) (kk := 307) hW g0 rfl ⟨by omega, by omega⟩ ⟨by omega, by omega⟩ qrb grb (by decide +kernel) p258959) (fun R258962 T258963 H258964 p258965 => ?_))
    obtain ⟨e258966, e258968, z258969, e258967, b258970, p258971⟩ := p258965
    subst e258966
    subst e258967
    subst e258968
    obtain ⟨a258972, a258973⟩ := p258971
    show wp _ _ 199 57 [(1, vI z258943), (0, .ref r0)] [vI z258969] _ H _
    have u258974 := RO_k a258973
    refine wp_of e199 c199_57 (rw_istore_n (pc' := 58) (z := z258969) (L' := [(2, vI z258969), (1, vI z258943), (0, .ref r0)]) rfl rfl rfl ?_)
    refine wp_of e199 c199_58 (rw_aload_n (pc' := 59) (v := .ref r0) rfl rfl rfl ?_)
    refine wp_of e199 c199_59 (xg_I (pc' := 62) lf_9_75 hW g0 sh_42 (by decide) (by decide) ty_42_9 rfl rfl (fun b258975 b258976 => ?_))
    refine wp_of e199 c199_62 (rw_iconst (pc' := 63) rfl ?_)
    refine wp_of e199 c199_63 (rw_icmp_ne (p1 := 67) (p2 := 66) (by decide) rfl ⟨by omega, by omega⟩ ⟨by omega, by omega⟩ (fun c258977 => ?_) (fun c258977 => ?_))
    · exfalso
      omega
    · exact wp_return e199 c199_66 rfl ⟨rfl, rfl, rfl, (a258973)⟩
  · exfalso
    omega
