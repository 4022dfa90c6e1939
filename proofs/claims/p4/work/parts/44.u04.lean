/-! what methods do (own work, written by wip/gen3/sx3.py) -/
/-! StrikeAwake$Reader.readsLine(LStrikeAwake$Parish;)Z  -/
abbrev uq_17 (r0 : Nat) (r1 : Nat) (tk : Nat) (rb : Nat) (B : Nat → Int) (n : Int) (q : Int) (d : xD) (T : wq_T) (H : wq_H) : Option Value → wq_T → wq_H → Prop := fun r T' H' => T = T' ∧ WT T H' ∧ wfr [(27, 7), (27, 8), (27, 9), (27, 10), (27, 11), (27, 12), (27, 13), (27, 14), (27, 15), (27, 16), (35, 6), (35, 7), (35, 8), (35, 9), (35, 10), (35, 11), (35, 12), (35, 13), (35, 14), (35, 15), (35, 16), (35, 17), (3, 1), (3, 2), (3, 3), (3, 4), (4, 2), (4, 3), (4, 4), (4, 5), (4, 6), (31, 999), (34, 999), (29, 999), (30, 999), (33, 999), (32, 999)] T H H' ∧ ∃ z : Int, some (vI z) = r ∧ (0 ≤ z ∧ z ≤ 1) ∧ (((z = 1) ∧ ((xline B n q d).1 = 0) ∧ (q ≤ (xline B n q d).2.2) ∧ (H' r0 3 = H r0 3) ∧ TC T H' tk B n (xline B n q d).2.2 ∧ DC T H' r1 (xdline B n q d)) ∨ ((z = 0) ∧ ((xline B n q d).1 ≠ 0) ∧ ((xline B n q d).2.2 = (xline B n q d).2.1) ∧ (H' r0 3 = (xline B n q d).1) ∧ (H' r0 4 = (xline B n q d).2.1)))
set_option maxHeartbeats 4000000 in
theorem u_17 {kt : Nat → Option mc_E} {T : wq_T} {H : wq_H} {r0 : Nat} {r1 : Nat} {tk : Nat} {rb : Nat} {B : Nat → Int} {n : Int} {q : Int} {d : xD} (hW : WT T H) (g0 : T.2.2.2 r0 = some 3) (g1 : T.2.2.2 r1 = some 27) (qtk : H r0 0 = (tk : Int)) (gtk : T.2.2.2 tk = some 4) (qrb : H tk 0 = (rb : Int)) (grb : T.2.2.2 rb = some 2) (hTC_tk : TC T H tk B n q) (hDC_r1 : DC T H r1 d) (hDD_r1 : DD T H r1 ) : wpc kt 6 17 [.ref r0, .ref r1] T H (uq_17 r0 r1 tk rb B n q d T H) := by
  refine wp_enter e17 (Nat.le_of_ble_eq_true rfl) rfl ?_
  have f0 : wfr [(27, 7), (27, 8), (27, 9), (27, 10), (27, 11), (27, 12), (27, 13), (27, 14), (27, 15), (27, 16), (35, 6), (35, 7), (35, 8), (35, 9), (35, 10), (35, 11), (35, 12), (35, 13), (35, 14), (35, 15), (35, 16), (35, 17), (3, 1), (3, 2), (3, 3), (3, 4), (4, 2), (4, 3), (4, 4), (4, 5), (4, 6), (31, 999), (34, 999), (29, 999), (30, 999), (33, 999), (32, 999)] T H H := wfr.rf
  show wp _ _ 17 0 [(0, .ref r0), (1, .ref r1)] [] _ H _
  have u720 := TC_k hTC_tk
  have u721 := DC_k hDC_r1
  have _b := @xre_b B n q
  have _s := @xsx_e (d 0 8)
  refine wp_of e17 c17_0 (rw_aload_n (pc' := 1) (v := .ref r0) rfl rfl rfl ?_)
  refine wp_of e17 c17_1 (xc_V (pc' := 4) (r := r0) (as := []) (st := []) (lm_1_54) rfl rfl (Nat.le_of_ble_eq_true rfl) hW g0 sh_3 (by decide) rfl (by decide) (u_18 (B := B) (n := n) (q := q) hW g0 qtk gtk qrb grb hTC_tk) (fun R722 T723 H724 p725 => ?_))
  obtain ⟨e726, e728, e727⟩ := p725
  subst e726
  subst e728
  rcases e727 with ⟨e727, b732⟩ | ⟨r729, e727, b730, b731, b732⟩
  · subst e727
    show wp _ _ 17 4 [(0, .ref r0), (1, .ref r1)] [.null] _ H _
    refine wp_of e17 c17_4 (rw_astore_n (pc' := 5) (v := .null) (L' := [(2, .null), (0, .ref r0), (1, .ref r1)]) rfl rfl rfl rfl ?_)
    refine wp_of e17 c17_5 (rw_aload_n (pc' := 6) (v := .null) rfl rfl rfl ?_)
    refine wp_of e17 c17_6 (rw_ifnull_n (p1 := 16) (p2 := 9) (by decide) rfl ?_)
    refine wp_of e17 c17_16 (rw_aload_n (pc' := 17) (v := .ref r0) rfl rfl rfl ?_)
    refine wp_of e17 c17_17 (rw_iconst (pc' := 18) rfl ?_)
    refine wp_of e17 c17_18 (xc_V (pc' := 21) (r := r0) (as := [vI 1]) (st := []) (lm_1_47) rfl rfl (Nat.le_of_ble_eq_true rfl) hW g0 sh_3 (by decide) rfl (by decide) (u_20  hW g0 ⟨by omega, by omega⟩ qtk gtk) (fun R733 T734 H735 p736 => ?_))
    obtain ⟨e737, w739, f740, z741, e738, b742, p743⟩ := p736
    subst e737
    subst e738
    obtain ⟨a744, a745, a746⟩ := p743
    have f747 := f0.tr f740 rfl
    show wp _ _ 17 21 [(2, .null), (0, .ref r0), (1, .ref r1)] [vI z741] _ H735 _
    have o748 : (xline B n q d) = (1, q, q) := by
      unfold xline xl0 xl1 xl2 xl3 xl4 xl5 xl6 xl7 xper
      repeat first | rw [xs_0 (by omega)] | rw [xs_1 (by omega)] | rw [if_pos (by omega)] | rw [if_neg (by omega)]
      first | done | rfl | assumption | (exfalso; omega) | (refine Prod.ext ?_ (Prod.ext ?_ ?_) <;> (try dsimp only) <;> omega)
    have o748a : ((xline B n q d)).1 = 1 := by rw [o748]
    have o748b : ((xline B n q d)).2.1 = q := by rw [o748]
    have o748c : ((xline B n q d)).2.2 = q := by rw [o748]
    exact wp_zreturn e17 c17_21 rfl (by omega) ⟨rfl, w739, f747, z741, rfl, ⟨by omega, by omega⟩, (Or.inr ⟨by omega, by omega, by omega, by omega, by omega⟩)⟩
  · subst e727
    have c749 : r729 = 16 ∨ r729 = 17 ∨ r729 = 18 ∨ r729 = 19 ∨ r729 = 20 ∨ r729 = 21 ∨ r729 = 22 ∨ r729 = 23 ∨ r729 = 24 ∨ r729 = 25 ∨ r729 = 26 := by omega
    rcases c749 with c749 | c749 | c749 | c749 | c749 | c749 | c749 | c749 | c749 | c749 | c749
    · subst c749
      show wp _ _ 17 4 [(0, .ref r0), (1, .ref r1)] [.ref 16] _ H _
      refine wp_of e17 c17_4 (rw_astore_n (pc' := 5) (v := .ref 16) (L' := [(2, .ref 16), (0, .ref r0), (1, .ref r1)]) rfl rfl rfl rfl ?_)
      refine wp_of e17 c17_5 (rw_aload_n (pc' := 6) (v := .ref 16) rfl rfl rfl ?_)
      refine wp_of e17 c17_6 (rw_ifnull_r (p1 := 16) (p2 := 9) (by decide) rfl ?_)
      refine wp_of e17 c17_9 (rw_aload_n (pc' := 10) (v := .ref 16) rfl rfl rfl ?_)
      have k750 : H 16 1 = 1 := (hW.2 16 _ (hW.1.2.2 0 (by decide))).2.2 1 (by decide) |> fun z => by have z1 : (1 : Int) ≤ H 16 1 ∧ H 16 1 ≤ 1 := z; omega
      refine wp_of e17 c17_10 (rw_getI (pc' := 13) (n := 2) (e := _) (lf_1_58).choose_spec.1 (lf_1_58).choose_spec.2.1 (hW.sh (hW.1.2.2 0 (by decide)) rfl) (by decide) rfl rfl ?_)
      rw [k750]
      refine wp_of e17 c17_13 (rw_if_ne (p1 := 22) (p2 := 16) (by decide) rfl ⟨by omega, by omega⟩ (fun c751 => ?_) (fun c751 => ?_))
      · refine wp_of e17 c17_22 (rw_aload_n (pc' := 23) (v := .ref r1) rfl rfl rfl ?_)
        refine wp_of e17 c17_23 (rw_aload_n (pc' := 24) (v := .ref 16) rfl rfl rfl ?_)
        refine wp_of e17 c17_24 (xc_V (pc' := 27) (r := r1) (as := [.ref 16]) (st := []) (lm_1_63) rfl rfl (Nat.le_of_ble_eq_true rfl) hW g1 sh_27 (by decide) rfl (by decide) (u_21_16  hW g1) (fun R752 T753 H754 p755 => ?_))
        obtain ⟨e756, e758, z759, e757, b760, p761⟩ := p755
        subst e756
        subst e757
        subst e758
        rcases p761 with ⟨a762, a763⟩ | ⟨a764, a765⟩
        · show wp _ _ 17 27 [(2, .ref 16), (0, .ref r0), (1, .ref r1)] [vI z759] _ H _
          refine wp_of e17 c17_27 (rw_aload_n (pc' := 28) (v := .ref 16) rfl rfl rfl ?_)
          have k766 : H 16 1 = 1 := (hW.2 16 _ (hW.1.2.2 0 (by decide))).2.2 1 (by decide) |> fun z => by have z1 : (1 : Int) ≤ H 16 1 ∧ H 16 1 ≤ 1 := z; omega
          refine wp_of e17 c17_28 (rw_getI (pc' := 31) (n := 2) (e := _) (lf_1_58).choose_spec.1 (lf_1_58).choose_spec.2.1 (hW.sh (hW.1.2.2 0 (by decide)) rfl) (by decide) rfl rfl ?_)
          rw [k766]
          refine wp_of e17 c17_31 (rw_icmp_lt (p1 := 68) (p2 := 34) (by decide) rfl ⟨by omega, by omega⟩ ⟨by omega, by omega⟩ (fun c767 => ?_) (fun c767 => ?_))
          · exfalso
            omega
          · refine wp_of e17 c17_34 (rw_aload_n (pc' := 35) (v := .ref 16) rfl rfl rfl ?_)
            refine wp_of e17 c17_35 (rw_gs (pc' := 38) (k := 16) rfl rfl rfl rfl ?_)
            refine wp_of e17 c17_38 (rw_acmp_eq (p1 := 48) (p2 := 41) (a := some 16) (b := some 16) rfl rfl (by decide) rfl (fun q9 => ?_) (fun q9 => absurd q9 (by decide)))
            refine wp_of e17 c17_48 (rw_iconst (pc' := 49) rfl ?_)
            refine wp_of e17 c17_49 (rw_goto (p1 := 53) (by decide) ?_)
            refine wp_of e17 c17_53 (rw_istore_n (pc' := 54) (z := 1) (L' := [(3, vI 1), (2, .ref 16), (0, .ref r0), (1, .ref r1)]) rfl rfl rfl ?_)
            refine wp_of e17 c17_54 (rw_aload_n (pc' := 55) (v := .ref r0) rfl rfl rfl ?_)
            refine wp_of e17 c17_55 (rw_iload_n (pc' := 56) (z := 1) rfl rfl ?_)
            refine wp_of e17 c17_56 (rw_if_eq (p1 := 63) (p2 := 59) (by decide) rfl ⟨by omega, by omega⟩ (fun c768 => ?_) (fun c768 => ?_))
            · exfalso
              omega
            · refine wp_of e17 c17_59 (rw_iconst (pc' := 60) rfl ?_)
              refine wp_of e17 c17_60 (rw_goto (p1 := 64) (by decide) ?_)
              refine wp_of e17 c17_64 (xc_V (pc' := 67) (r := r0) (as := [vI 3]) (st := []) (lm_1_47) rfl rfl (Nat.le_of_ble_eq_true rfl) hW g0 sh_3 (by decide) rfl (by decide) (u_20  hW g0 ⟨by omega, by omega⟩ qtk gtk) (fun R769 T770 H771 p772 => ?_))
              obtain ⟨e773, w775, f776, z777, e774, b778, p779⟩ := p772
              subst e773
              subst e774
              obtain ⟨a780, a781, a782⟩ := p779
              have f783 := f0.tr f776 rfl
              show wp _ _ 17 67 [(3, vI 1), (2, .ref 16), (0, .ref r0), (1, .ref r1)] [vI z777] _ H771 _
              have o784 : (xline B n q d) = (3, q, q) := by
                unfold xline xl0 xl1 xl2 xl3 xl4 xl5 xl6 xl7 xper
                repeat first | rw [xs_0 (by omega)] | rw [xs_1 (by omega)] | rw [if_pos (by omega)] | rw [if_neg (by omega)]
                first | done | rfl | assumption | (exfalso; omega) | (refine Prod.ext ?_ (Prod.ext ?_ ?_) <;> (try dsimp only) <;> omega)
              have o784a : ((xline B n q d)).1 = 3 := by rw [o784]
              have o784b : ((xline B n q d)).2.1 = q := by rw [o784]
              have o784c : ((xline B n q d)).2.2 = q := by rw [o784]
              exact wp_zreturn e17 c17_67 rfl (by omega) ⟨rfl, w775, f783, z777, rfl, ⟨by omega, by omega⟩, (Or.inr ⟨by omega, by omega, by omega, by omega, by omega⟩)⟩
        · show wp _ _ 17 27 [(2, .ref 16), (0, .ref r0), (1, .ref r1)] [vI z759] _ H _
          refine wp_of e17 c17_27 (rw_aload_n (pc' := 28) (v := .ref 16) rfl rfl rfl ?_)
          have k785 : H 16 1 = 1 := (hW.2 16 _ (hW.1.2.2 0 (by decide))).2.2 1 (by decide) |> fun z => by have z1 : (1 : Int) ≤ H 16 1 ∧ H 16 1 ≤ 1 := z; omega
          refine wp_of e17 c17_28 (rw_getI (pc' := 31) (n := 2) (e := _) (lf_1_58).choose_spec.1 (lf_1_58).choose_spec.2.1 (hW.sh (hW.1.2.2 0 (by decide)) rfl) (by decide) rfl rfl ?_)
          rw [k785]
          refine wp_of e17 c17_31 (rw_icmp_lt (p1 := 68) (p2 := 34) (by decide) rfl ⟨by omega, by omega⟩ ⟨by omega, by omega⟩ (fun c786 => ?_) (fun c786 => ?_))
          · refine wp_of e17 c17_68 (rw_aload_n (pc' := 69) (v := .ref r0) rfl rfl rfl ?_)
            refine wp_of e17 c17_69 (xg_K (pc' := 72) lf_1_12 hW g0 sh_3 (by decide) (by decide) rfl qtk rfl ?_)
            have h787 : TP T H rb B := TC_tp hTC_tk qrb
            refine wp_of e17 c17_72 (xc_V (pc' := 75) (r := tk) (as := []) (st := []) (lm_1_74) rfl rfl (Nat.le_of_ble_eq_true rfl) hW gtk sh_4 (by decide) rfl (by decide) (u_16 (B := B) (n := n) (a := (xE B n q)) (q := (xN B n q)) hW gtk qrb grb (by omega) (by omega) (by omega) (rfl) h787) (fun R788 T789 H790 p791 => ?_))
            obtain ⟨e792, w794, f795, e793, p796⟩ := p791
            subst e792
            subst e793
            have f798 := f0.tr f795 rfl
            show wp _ _ 17 75 [(2, .ref 16), (0, .ref r0), (1, .ref r1)] [] _ H790 _
            have u799 := TC_k p796
            refine wp_of e17 c17_75 (rw_gs (pc' := 78) (k := 2) rfl rfl rfl rfl ?_)
            refine wp_of e17 c17_78 (rw_aload_n (pc' := 79) (v := .ref 16) rfl rfl rfl ?_)
            refine wp_of e17 c17_79 (rw_ord (pc' := 82) rfl rfl rfl (by decide) (Nat.le_of_ble_eq_true rfl) rfl ?_)
            show wp _ _ 17 82 [(2, .ref 16), (0, .ref r0), (1, .ref r1)] [vI 0, .ref 2] _ H790 _
            have k800 : H790 2 (0 : Int).toNat = 1 := (w794.2 2 _ w794.1.2.1).2.2 0 (by decide) |> fun z => by have z1 : (1 : Int) ≤ H790 2 0 ∧ H790 2 0 ≤ 1 := z; exact Int.le_antisymm z1.2 z1.1
            refine wp_of e17 c17_82 (rw_iaload (pc' := 83) (n := 11) (w794.sh w794.1.2.1 rfl) (by decide) (by decide) (by decide) rfl rfl ?_)
            rw [k800]
            refine wp_of e17 c17_83 (rw_tsw (p1 := 128) ⟨by omega, by omega⟩ (by decide) ?_)
            refine wp_of e17 c17_128 (rw_aload_n (pc' := 129) (v := .ref r0) rfl rfl rfl ?_)
            refine wp_of e17 c17_129 (rw_aload_n (pc' := 130) (v := .ref r1) rfl rfl rfl ?_)
            have k802 : H790 r0 0 = H r0 0 := (f795 r0 0 _ g0 rfl)
            have q803 : H790 r0 0 = (tk : Int) := k802.trans qtk
            have k804 : H790 tk 0 = H tk 0 := (f795 tk 0 _ gtk rfl)
            have q805 : H790 tk 0 = (rb : Int) := k804.trans qrb
            have k806 : H790 r0 3 = H r0 3 := (f795 r0 3 _ g0 rfl)
            have h807 : DC T H790 r1 d := (DC_fr hW g1 f795 rfl hDC_r1)
            refine wp_of e17 c17_130 (xc_V (pc' := 133) (r := r0) (as := [.ref r1]) (st := []) (lm_1_87) rfl rfl (Nat.le_of_ble_eq_true rfl) w794 g0 sh_3 (by decide) rfl (by decide) (u_22 (B := B) (n := n) (q := ((xN B n q))) (d := d) w794 g0 g1 q803 gtk q805 grb p796 h807) (fun R808 T809 H810 p811 => ?_))
            obtain ⟨e812, w814, f815, z816, e813, b817, p818⟩ := p811
            subst e812
            subst e813
            rcases p818 with ⟨a819, a820, a821, a822, a823, a824, a825⟩ | ⟨a826, a827, a828, a829, a830⟩
            · have f831 := f798.tr f815 rfl
              show wp _ _ 17 133 [(2, .ref 16), (0, .ref r0), (1, .ref r1)] [vI z816] _ H810 _
              have u832 := TC_k a824
              have u833 := DC_k a825
              have o834 : (xline B n q d) = (0, ((xN B n q)), (xN B n (xN B n (xN B n (xN B n (xN B n (xN B n ((xN B n q))))))))) := by
                unfold xline xl0 xl1 xl2 xl3 xl4 xl5 xl6 xl7 xper
                repeat first | rw [xs_0 (by omega)] | rw [xs_1 (by omega)] | rw [if_pos (by omega)] | rw [if_neg (by omega)]
                first | done | rfl | assumption | (exfalso; omega) | (refine Prod.ext ?_ (Prod.ext ?_ ?_) <;> (try dsimp only) <;> omega)
              have o834a : ((xline B n q d)).1 = 0 := by rw [o834]
              have o834b : ((xline B n q d)).2.1 = ((xN B n q)) := by rw [o834]
              have o834c : ((xline B n q d)).2.2 = (xN B n (xN B n (xN B n (xN B n (xN B n (xN B n ((xN B n q)))))))) := by rw [o834]
              have o835 : xdline B n q d = ((xdlaw B n ((xN B n q)) d)) := by
                unfold xdline
                repeat first | rw [xs_0 (by omega)] | rw [xs_1 (by omega)] | rw [if_pos (by omega)] | rw [if_neg (by omega)]
                first | done | rfl
              exact wp_zreturn e17 c17_133 rfl (by omega) ⟨rfl, w814, f831, z816, rfl, ⟨by omega, by omega⟩, (Or.inl ⟨by omega, by omega, by omega, by omega, by rw [o834]; exact a824, by rw [o835]; exact a825⟩)⟩
            · have f836 := f798.tr f815 rfl
              show wp _ _ 17 133 [(2, .ref 16), (0, .ref r0), (1, .ref r1)] [vI z816] _ H810 _
              have o837 : (xline B n q d) = ((xlaw B n ((xN B n q))).1, (xlaw B n ((xN B n q))).2.1, (xlaw B n ((xN B n q))).2.2) := by
                unfold xline xl0 xl1 xl2 xl3 xl4 xl5 xl6 xl7 xper
                repeat first | rw [xs_0 (by omega)] | rw [xs_1 (by omega)] | rw [if_pos (by omega)] | rw [if_neg (by omega)]
                first | done | rfl | assumption | (exfalso; omega) | (refine Prod.ext ?_ (Prod.ext ?_ ?_) <;> (try dsimp only) <;> omega)
              have o837a : ((xline B n q d)).1 = (xlaw B n ((xN B n q))).1 := by rw [o837]
              have o837b : ((xline B n q d)).2.1 = (xlaw B n ((xN B n q))).2.1 := by rw [o837]
              have o837c : ((xline B n q d)).2.2 = (xlaw B n ((xN B n q))).2.2 := by rw [o837]
              exact wp_zreturn e17 c17_133 rfl (by omega) ⟨rfl, w814, f836, z816, rfl, ⟨by omega, by omega⟩, (Or.inr ⟨by omega, by omega, by omega, by omega, by omega⟩)⟩
          · exfalso
            omega
      · exfalso
        omega
    · subst c749
      show wp _ _ 17 4 [(0, .ref r0), (1, .ref r1)] [.ref 17] _ H _
      refine wp_of e17 c17_4 (rw_astore_n (pc' := 5) (v := .ref 17) (L' := [(2, .ref 17), (0, .ref r0), (1, .ref r1)]) rfl rfl rfl rfl ?_)
      refine wp_of e17 c17_5 (rw_aload_n (pc' := 6) (v := .ref 17) rfl rfl rfl ?_)
      refine wp_of e17 c17_6 (rw_ifnull_r (p1 := 16) (p2 := 9) (by decide) rfl ?_)
      refine wp_of e17 c17_9 (rw_aload_n (pc' := 10) (v := .ref 17) rfl rfl rfl ?_)
      have k838 : H 17 1 = 6 := (hW.2 17 _ (hW.1.2.2 1 (by decide))).2.2 1 (by decide) |> fun z => by have z1 : (6 : Int) ≤ H 17 1 ∧ H 17 1 ≤ 6 := z; omega
      refine wp_of e17 c17_10 (rw_getI (pc' := 13) (n := 2) (e := _) (lf_1_58).choose_spec.1 (lf_1_58).choose_spec.2.1 (hW.sh (hW.1.2.2 1 (by decide)) rfl) (by decide) rfl rfl ?_)
      rw [k838]
      refine wp_of e17 c17_13 (rw_if_ne (p1 := 22) (p2 := 16) (by decide) rfl ⟨by omega, by omega⟩ (fun c839 => ?_) (fun c839 => ?_))
      · refine wp_of e17 c17_22 (rw_aload_n (pc' := 23) (v := .ref r1) rfl rfl rfl ?_)
        refine wp_of e17 c17_23 (rw_aload_n (pc' := 24) (v := .ref 17) rfl rfl rfl ?_)
        refine wp_of e17 c17_24 (xc_V (pc' := 27) (r := r1) (as := [.ref 17]) (st := []) (lm_1_63) rfl rfl (Nat.le_of_ble_eq_true rfl) hW g1 sh_27 (by decide) rfl (by decide) (u_21_17  hW g1) (fun R840 T841 H842 p843 => ?_))
        obtain ⟨e844, e846, z847, e845, b848, p849⟩ := p843
        subst e844
        subst e845
        subst e846
        obtain ⟨a850, a851⟩ := p849
        show wp _ _ 17 27 [(2, .ref 17), (0, .ref r0), (1, .ref r1)] [vI z847] _ H _
        refine wp_of e17 c17_27 (rw_aload_n (pc' := 28) (v := .ref 17) rfl rfl rfl ?_)
        have k852 : H 17 1 = 6 := (hW.2 17 _ (hW.1.2.2 1 (by decide))).2.2 1 (by decide) |> fun z => by have z1 : (6 : Int) ≤ H 17 1 ∧ H 17 1 ≤ 6 := z; omega
        refine wp_of e17 c17_28 (rw_getI (pc' := 31) (n := 2) (e := _) (lf_1_58).choose_spec.1 (lf_1_58).choose_spec.2.1 (hW.sh (hW.1.2.2 1 (by decide)) rfl) (by decide) rfl rfl ?_)
        rw [k852]
        refine wp_of e17 c17_31 (rw_icmp_lt (p1 := 68) (p2 := 34) (by decide) rfl ⟨by omega, by omega⟩ ⟨by omega, by omega⟩ (fun c853 => ?_) (fun c853 => ?_))
        · refine wp_of e17 c17_68 (rw_aload_n (pc' := 69) (v := .ref r0) rfl rfl rfl ?_)
          refine wp_of e17 c17_69 (xg_K (pc' := 72) lf_1_12 hW g0 sh_3 (by decide) (by decide) rfl qtk rfl ?_)
          have h854 : TP T H rb B := TC_tp hTC_tk qrb
          refine wp_of e17 c17_72 (xc_V (pc' := 75) (r := tk) (as := []) (st := []) (lm_1_74) rfl rfl (Nat.le_of_ble_eq_true rfl) hW gtk sh_4 (by decide) rfl (by decide) (u_16 (B := B) (n := n) (a := (xE B n q)) (q := (xN B n q)) hW gtk qrb grb (by omega) (by omega) (by omega) (rfl) h854) (fun R855 T856 H857 p858 => ?_))
          obtain ⟨e859, w861, f862, e860, p863⟩ := p858
          subst e859
          subst e860
          have f865 := f0.tr f862 rfl
          show wp _ _ 17 75 [(2, .ref 17), (0, .ref r0), (1, .ref r1)] [] _ H857 _
          have u866 := TC_k p863
          refine wp_of e17 c17_75 (rw_gs (pc' := 78) (k := 2) rfl rfl rfl rfl ?_)
          refine wp_of e17 c17_78 (rw_aload_n (pc' := 79) (v := .ref 17) rfl rfl rfl ?_)
          refine wp_of e17 c17_79 (rw_ord (pc' := 82) rfl rfl rfl (by decide) (Nat.le_of_ble_eq_true rfl) rfl ?_)
          show wp _ _ 17 82 [(2, .ref 17), (0, .ref r0), (1, .ref r1)] [vI 1, .ref 2] _ H857 _
          have k867 : H857 2 (1 : Int).toNat = 2 := (w861.2 2 _ w861.1.2.1).2.2 1 (by decide) |> fun z => by have z1 : (2 : Int) ≤ H857 2 1 ∧ H857 2 1 ≤ 2 := z; exact Int.le_antisymm z1.2 z1.1
          refine wp_of e17 c17_82 (rw_iaload (pc' := 83) (n := 11) (w861.sh w861.1.2.1 rfl) (by decide) (by decide) (by decide) rfl rfl ?_)
          rw [k867]
          refine wp_of e17 c17_83 (rw_tsw (p1 := 134) ⟨by omega, by omega⟩ (by decide) ?_)
          refine wp_of e17 c17_134 (rw_aload_n (pc' := 135) (v := .ref r0) rfl rfl rfl ?_)
          refine wp_of e17 c17_135 (rw_aload_n (pc' := 136) (v := .ref r1) rfl rfl rfl ?_)
          have k869 : H857 r0 0 = H r0 0 := (f862 r0 0 _ g0 rfl)
          have q870 : H857 r0 0 = (tk : Int) := k869.trans qtk
          have k871 : H857 tk 0 = H tk 0 := (f862 tk 0 _ gtk rfl)
          have q872 : H857 tk 0 = (rb : Int) := k871.trans qrb
          have k873 : H857 r0 3 = H r0 3 := (f862 r0 3 _ g0 rfl)
          have h874 : DC T H857 r1 d := (DC_fr hW g1 f862 rfl hDC_r1)
          have h875 : DD T H857 r1  := (DD_fr hW g1 f862 rfl hDD_r1)
          refine wp_of e17 c17_136 (xc_V (pc' := 139) (r := r0) (as := [.ref r1]) (st := []) (lm_1_90) rfl rfl (Nat.le_of_ble_eq_true rfl) w861 g0 sh_3 (by decide) rfl (by decide) (u_25 (B := B) (n := n) (q := ((xN B n q))) (d := d) w861 g0 g1 q870 gtk q872 grb (by omega) p863 h874 h875) (fun R876 T877 H878 p879 => ?_))
          obtain ⟨e880, w882, f883, z884, e881, b885, p886⟩ := p879
          subst e880
          subst e881
          rcases p886 with ⟨a887, a888, a889, a890, a891, a892, a893, a894⟩ | ⟨a895, a896, a897, a898, a899⟩
          · have f900 := f865.tr f883 rfl
            show wp _ _ 17 139 [(2, .ref 17), (0, .ref r0), (1, .ref r1)] [vI z884] _ H878 _
            have u901 := TC_k a892
            have u902 := DC_k a893
            refine wp_of e17 c17_139 (rw_if_eq (p1 := 154) (p2 := 142) (by decide) rfl ⟨by omega, by omega⟩ (fun c903 => ?_) (fun c903 => ?_))
            · exfalso
              omega
            · refine wp_of e17 c17_142 (rw_aload_n (pc' := 143) (v := .ref r0) rfl rfl rfl ?_)
              refine wp_of e17 c17_143 (rw_aload_n (pc' := 144) (v := .ref r1) rfl rfl rfl ?_)
              have k904 : H878 r0 0 = H857 r0 0 := (f883 r0 0 _ g0 rfl)
              have q905 : H878 r0 0 = (tk : Int) := k904.trans q870
              have k906 : H878 tk 0 = H857 tk 0 := (f883 tk 0 _ gtk rfl)
              have q907 : H878 tk 0 = (rb : Int) := k906.trans q872
              have h908 : DD T H878 r1  := (DD_fr w861 g1 f883 rfl h875)
              refine wp_of e17 c17_144 (xc_V (pc' := 147) (r := r0) (as := [.ref r1]) (st := []) (lm_1_93) rfl rfl (Nat.le_of_ble_eq_true rfl) w882 g0 sh_3 (by decide) rfl (by decide) (u_30 (B := B) (n := n) (q := ((xN B n (xN B n (xN B n (xN B n (xN B n (xN B n (xN B n (xN B n (xN B n ((xN B n q))))))))))))) (d := d) (y := ((xN B n q))) w882 g0 g1 q905 gtk q907 grb (by omega) (by omega) a892 a893 h908 a894) (fun R909 T910 H911 p912 => ?_))
              obtain ⟨e913, w915, f916, z917, e914, b918, p919⟩ := p912
              subst e913
              subst e914
              rcases p919 with ⟨a920, a921, a922, a923, a924, a925⟩ | ⟨a926, a927, a928, a929, a930⟩
              · have f931 := f900.tr f916 rfl
                show wp _ _ 17 147 [(2, .ref 17), (0, .ref r0), (1, .ref r1)] [vI z917] _ H911 _
                have u932 := TC_k a924
                have u933 := DC_k a925
                refine wp_of e17 c17_147 (rw_if_eq (p1 := 154) (p2 := 150) (by decide) rfl ⟨by omega, by omega⟩ (fun c934 => ?_) (fun c934 => ?_))
                · exfalso
                  omega
                · refine wp_of e17 c17_150 (rw_iconst (pc' := 151) rfl ?_)
                  refine wp_of e17 c17_151 (rw_goto (p1 := 155) (by decide) ?_)
                  have o935 : (xline B n q d) = ((xcs B n ((xN B n (xN B n (xN B n (xN B n (xN B n (xN B n (xN B n (xN B n (xN B n ((xN B n q))))))))))))).1, (xcs B n ((xN B n (xN B n (xN B n (xN B n (xN B n (xN B n (xN B n (xN B n (xN B n ((xN B n q))))))))))))).2.1, (xcs B n ((xN B n (xN B n (xN B n (xN B n (xN B n (xN B n (xN B n (xN B n (xN B n ((xN B n q))))))))))))).2.2) := by
                    unfold xline xl0 xl1 xl2 xl3 xl4 xl5 xl6 xl7 xper
                    repeat first | rw [xs_0 (by omega)] | rw [xs_1 (by omega)] | rw [if_pos (by omega)] | rw [if_neg (by omega)]
                    first | done | rfl | assumption | (exfalso; omega) | (refine Prod.ext ?_ (Prod.ext ?_ ?_) <;> (try dsimp only) <;> omega)
                  have o935a : ((xline B n q d)).1 = (xcs B n ((xN B n (xN B n (xN B n (xN B n (xN B n (xN B n (xN B n (xN B n (xN B n ((xN B n q))))))))))))).1 := by rw [o935]
                  have o935b : ((xline B n q d)).2.1 = (xcs B n ((xN B n (xN B n (xN B n (xN B n (xN B n (xN B n (xN B n (xN B n (xN B n ((xN B n q))))))))))))).2.1 := by rw [o935]
                  have o935c : ((xline B n q d)).2.2 = (xcs B n ((xN B n (xN B n (xN B n (xN B n (xN B n (xN B n (xN B n (xN B n (xN B n ((xN B n q))))))))))))).2.2 := by rw [o935]
                  have o936 : xdline B n q d = (xdper B n ((xN B n q)) d) := by
                    unfold xdline
                    repeat first | rw [xs_0 (by omega)] | rw [xs_1 (by omega)] | rw [if_pos (by omega)] | rw [if_neg (by omega)]
                    first | done | rfl
                  exact wp_zreturn e17 c17_155 rfl (by omega) ⟨rfl, w915, f931, 1, rfl, ⟨by omega, by omega⟩, (Or.inl ⟨by omega, by omega, by omega, by omega, by rw [o935]; exact a924, by rw [o936]; exact a925⟩)⟩
              · have f937 := f900.tr f916 rfl
                show wp _ _ 17 147 [(2, .ref 17), (0, .ref r0), (1, .ref r1)] [vI z917] _ H911 _
                refine wp_of e17 c17_147 (rw_if_eq (p1 := 154) (p2 := 150) (by decide) rfl ⟨by omega, by omega⟩ (fun c938 => ?_) (fun c938 => ?_))
                · refine wp_of e17 c17_154 (rw_iconst (pc' := 155) rfl ?_)
                  have o939 : (xline B n q d) = ((xcs B n ((xN B n (xN B n (xN B n (xN B n (xN B n (xN B n (xN B n (xN B n (xN B n ((xN B n q))))))))))))).1, (xcs B n ((xN B n (xN B n (xN B n (xN B n (xN B n (xN B n (xN B n (xN B n (xN B n ((xN B n q))))))))))))).2.1, (xcs B n ((xN B n (xN B n (xN B n (xN B n (xN B n (xN B n (xN B n (xN B n (xN B n ((xN B n q))))))))))))).2.2) := by
                    unfold xline xl0 xl1 xl2 xl3 xl4 xl5 xl6 xl7 xper
                    repeat first | rw [xs_0 (by omega)] | rw [xs_1 (by omega)] | rw [if_pos (by omega)] | rw [if_neg (by omega)]
                    first | done | rfl | assumption | (exfalso; omega) | (refine Prod.ext ?_ (Prod.ext ?_ ?_) <;> (try dsimp only) <;> omega)
                  have o939a : ((xline B n q d)).1 = (xcs B n ((xN B n (xN B n (xN B n (xN B n (xN B n (xN B n (xN B n (xN B n (xN B n ((xN B n q))))))))))))).1 := by rw [o939]
                  have o939b : ((xline B n q d)).2.1 = (xcs B n ((xN B n (xN B n (xN B n (xN B n (xN B n (xN B n (xN B n (xN B n (xN B n ((xN B n q))))))))))))).2.1 := by rw [o939]
                  have o939c : ((xline B n q d)).2.2 = (xcs B n ((xN B n (xN B n (xN B n (xN B n (xN B n (xN B n (xN B n (xN B n (xN B n ((xN B n q))))))))))))).2.2 := by rw [o939]
                  exact wp_zreturn e17 c17_155 rfl (by omega) ⟨rfl, w915, f937, 0, rfl, ⟨by omega, by omega⟩, (Or.inr ⟨by omega, by omega, by omega, by omega, by omega⟩)⟩
                · exfalso
                  omega
          · have f940 := f865.tr f883 rfl
            show wp _ _ 17 139 [(2, .ref 17), (0, .ref r0), (1, .ref r1)] [vI z884] _ H878 _
            refine wp_of e17 c17_139 (rw_if_eq (p1 := 154) (p2 := 142) (by decide) rfl ⟨by omega, by omega⟩ (fun c941 => ?_) (fun c941 => ?_))
            · refine wp_of e17 c17_154 (rw_iconst (pc' := 155) rfl ?_)
              have o942 : (xline B n q d) = ((xbd B n ((xN B n q)) d).1, (xbd B n ((xN B n q)) d).2.1, (xbd B n ((xN B n q)) d).2.2) := by
                unfold xline xl0 xl1 xl2 xl3 xl4 xl5 xl6 xl7 xper
                repeat first | rw [xs_0 (by omega)] | rw [xs_1 (by omega)] | rw [if_pos (by omega)] | rw [if_neg (by omega)]
                first | done | rfl | assumption | (exfalso; omega) | (refine Prod.ext ?_ (Prod.ext ?_ ?_) <;> (try dsimp only) <;> omega)
              have o942a : ((xline B n q d)).1 = (xbd B n ((xN B n q)) d).1 := by rw [o942]
              have o942b : ((xline B n q d)).2.1 = (xbd B n ((xN B n q)) d).2.1 := by rw [o942]
              have o942c : ((xline B n q d)).2.2 = (xbd B n ((xN B n q)) d).2.2 := by rw [o942]
              exact wp_zreturn e17 c17_155 rfl (by omega) ⟨rfl, w882, f940, 0, rfl, ⟨by omega, by omega⟩, (Or.inr ⟨by omega, by omega, by omega, by omega, by omega⟩)⟩
            · exfalso
              omega
        · refine wp_of e17 c17_34 (rw_aload_n (pc' := 35) (v := .ref 17) rfl rfl rfl ?_)
          refine wp_of e17 c17_35 (rw_gs (pc' := 38) (k := 16) rfl rfl rfl rfl ?_)
          refine wp_of e17 c17_38 (rw_acmp_eq (p1 := 48) (p2 := 41) (a := some 17) (b := some 16) rfl rfl (by decide) rfl (fun q9 => absurd q9 (by decide)) (fun q9 => ?_))
          refine wp_of e17 c17_41 (rw_aload_n (pc' := 42) (v := .ref 17) rfl rfl rfl ?_)
          refine wp_of e17 c17_42 (rw_gs (pc' := 45) (k := 18) rfl rfl rfl rfl ?_)
          refine wp_of e17 c17_45 (rw_acmp_ne (p1 := 52) (p2 := 48) (a := some 17) (b := some 18) rfl rfl (by decide) rfl (fun q9 => ?_) (fun q9 => absurd q9 (by decide)))
          refine wp_of e17 c17_52 (rw_iconst (pc' := 53) rfl ?_)
          refine wp_of e17 c17_53 (rw_istore_n (pc' := 54) (z := 0) (L' := [(3, vI 0), (2, .ref 17), (0, .ref r0), (1, .ref r1)]) rfl rfl rfl ?_)
          refine wp_of e17 c17_54 (rw_aload_n (pc' := 55) (v := .ref r0) rfl rfl rfl ?_)
          refine wp_of e17 c17_55 (rw_iload_n (pc' := 56) (z := 0) rfl rfl ?_)
          refine wp_of e17 c17_56 (rw_if_eq (p1 := 63) (p2 := 59) (by decide) rfl ⟨by omega, by omega⟩ (fun c943 => ?_) (fun c943 => ?_))
          · refine wp_of e17 c17_63 (rw_iconst (pc' := 64) rfl ?_)
            refine wp_of e17 c17_64 (xc_V (pc' := 67) (r := r0) (as := [vI 5]) (st := []) (lm_1_47) rfl rfl (Nat.le_of_ble_eq_true rfl) hW g0 sh_3 (by decide) rfl (by decide) (u_20  hW g0 ⟨by omega, by omega⟩ qtk gtk) (fun R944 T945 H946 p947 => ?_))
            obtain ⟨e948, w950, f951, z952, e949, b953, p954⟩ := p947
            subst e948
            subst e949
            obtain ⟨a955, a956, a957⟩ := p954
            have f958 := f0.tr f951 rfl
            show wp _ _ 17 67 [(3, vI 0), (2, .ref 17), (0, .ref r0), (1, .ref r1)] [vI z952] _ H946 _
            have o959 : (xline B n q d) = (5, q, q) := by
              unfold xline xl0 xl1 xl2 xl3 xl4 xl5 xl6 xl7 xper
              repeat first | rw [xs_0 (by omega)] | rw [xs_1 (by omega)] | rw [if_pos (by omega)] | rw [if_neg (by omega)]
              first | done | rfl | assumption | (exfalso; omega) | (refine Prod.ext ?_ (Prod.ext ?_ ?_) <;> (try dsimp only) <;> omega)
            have o959a : ((xline B n q d)).1 = 5 := by rw [o959]
            have o959b : ((xline B n q d)).2.1 = q := by rw [o959]
            have o959c : ((xline B n q d)).2.2 = q := by rw [o959]
            exact wp_zreturn e17 c17_67 rfl (by omega) ⟨rfl, w950, f958, z952, rfl, ⟨by omega, by omega⟩, (Or.inr ⟨by omega, by omega, by omega, by omega, by omega⟩)⟩
          · exfalso
            omega
      · exfalso
        omega
    · subst c749
      show wp _ _ 17 4 [(0, .ref r0), (1, .ref r1)] [.ref 18] _ H _
      refine wp_of e17 c17_4 (rw_astore_n (pc' := 5) (v := .ref 18) (L' := [(2, .ref 18), (0, .ref r0), (1, .ref r1)]) rfl rfl rfl rfl ?_)
      refine wp_of e17 c17_5 (rw_aload_n (pc' := 6) (v := .ref 18) rfl rfl rfl ?_)
      refine wp_of e17 c17_6 (rw_ifnull_r (p1 := 16) (p2 := 9) (by decide) rfl ?_)
      refine wp_of e17 c17_9 (rw_aload_n (pc' := 10) (v := .ref 18) rfl rfl rfl ?_)
      have k960 : H 18 1 = 1 := (hW.2 18 _ (hW.1.2.2 2 (by decide))).2.2 1 (by decide) |> fun z => by have z1 : (1 : Int) ≤ H 18 1 ∧ H 18 1 ≤ 1 := z; omega
      refine wp_of e17 c17_10 (rw_getI (pc' := 13) (n := 2) (e := _) (lf_1_58).choose_spec.1 (lf_1_58).choose_spec.2.1 (hW.sh (hW.1.2.2 2 (by decide)) rfl) (by decide) rfl rfl ?_)
      rw [k960]
      refine wp_of e17 c17_13 (rw_if_ne (p1 := 22) (p2 := 16) (by decide) rfl ⟨by omega, by omega⟩ (fun c961 => ?_) (fun c961 => ?_))
      · refine wp_of e17 c17_22 (rw_aload_n (pc' := 23) (v := .ref r1) rfl rfl rfl ?_)
        refine wp_of e17 c17_23 (rw_aload_n (pc' := 24) (v := .ref 18) rfl rfl rfl ?_)
        refine wp_of e17 c17_24 (xc_V (pc' := 27) (r := r1) (as := [.ref 18]) (st := []) (lm_1_63) rfl rfl (Nat.le_of_ble_eq_true rfl) hW g1 sh_27 (by decide) rfl (by decide) (u_21_18  hW g1) (fun R962 T963 H964 p965 => ?_))
        obtain ⟨e966, e968, z969, e967, b970, p971⟩ := p965
        subst e966
        subst e967
        subst e968
        rcases p971 with ⟨a972, a973⟩ | ⟨a974, a975⟩
        · show wp _ _ 17 27 [(2, .ref 18), (0, .ref r0), (1, .ref r1)] [vI z969] _ H _
          refine wp_of e17 c17_27 (rw_aload_n (pc' := 28) (v := .ref 18) rfl rfl rfl ?_)
          have k976 : H 18 1 = 1 := (hW.2 18 _ (hW.1.2.2 2 (by decide))).2.2 1 (by decide) |> fun z => by have z1 : (1 : Int) ≤ H 18 1 ∧ H 18 1 ≤ 1 := z; omega
          refine wp_of e17 c17_28 (rw_getI (pc' := 31) (n := 2) (e := _) (lf_1_58).choose_spec.1 (lf_1_58).choose_spec.2.1 (hW.sh (hW.1.2.2 2 (by decide)) rfl) (by decide) rfl rfl ?_)
          rw [k976]
          refine wp_of e17 c17_31 (rw_icmp_lt (p1 := 68) (p2 := 34) (by decide) rfl ⟨by omega, by omega⟩ ⟨by omega, by omega⟩ (fun c977 => ?_) (fun c977 => ?_))
          · exfalso
            omega
          · refine wp_of e17 c17_34 (rw_aload_n (pc' := 35) (v := .ref 18) rfl rfl rfl ?_)
            refine wp_of e17 c17_35 (rw_gs (pc' := 38) (k := 16) rfl rfl rfl rfl ?_)
            refine wp_of e17 c17_38 (rw_acmp_eq (p1 := 48) (p2 := 41) (a := some 18) (b := some 16) rfl rfl (by decide) rfl (fun q9 => absurd q9 (by decide)) (fun q9 => ?_))
            refine wp_of e17 c17_41 (rw_aload_n (pc' := 42) (v := .ref 18) rfl rfl rfl ?_)
            refine wp_of e17 c17_42 (rw_gs (pc' := 45) (k := 18) rfl rfl rfl rfl ?_)
            refine wp_of e17 c17_45 (rw_acmp_ne (p1 := 52) (p2 := 48) (a := some 18) (b := some 18) rfl rfl (by decide) rfl (fun q9 => absurd q9 (by decide)) (fun q9 => ?_))
            refine wp_of e17 c17_48 (rw_iconst (pc' := 49) rfl ?_)
            refine wp_of e17 c17_49 (rw_goto (p1 := 53) (by decide) ?_)
            refine wp_of e17 c17_53 (rw_istore_n (pc' := 54) (z := 1) (L' := [(3, vI 1), (2, .ref 18), (0, .ref r0), (1, .ref r1)]) rfl rfl rfl ?_)
            refine wp_of e17 c17_54 (rw_aload_n (pc' := 55) (v := .ref r0) rfl rfl rfl ?_)
            refine wp_of e17 c17_55 (rw_iload_n (pc' := 56) (z := 1) rfl rfl ?_)
            refine wp_of e17 c17_56 (rw_if_eq (p1 := 63) (p2 := 59) (by decide) rfl ⟨by omega, by omega⟩ (fun c978 => ?_) (fun c978 => ?_))
            · exfalso
              omega
            · refine wp_of e17 c17_59 (rw_iconst (pc' := 60) rfl ?_)
              refine wp_of e17 c17_60 (rw_goto (p1 := 64) (by decide) ?_)
              refine wp_of e17 c17_64 (xc_V (pc' := 67) (r := r0) (as := [vI 3]) (st := []) (lm_1_47) rfl rfl (Nat.le_of_ble_eq_true rfl) hW g0 sh_3 (by decide) rfl (by decide) (u_20  hW g0 ⟨by omega, by omega⟩ qtk gtk) (fun R979 T980 H981 p982 => ?_))
              obtain ⟨e983, w985, f986, z987, e984, b988, p989⟩ := p982
              subst e983
              subst e984
              obtain ⟨a990, a991, a992⟩ := p989
              have f993 := f0.tr f986 rfl
              show wp _ _ 17 67 [(3, vI 1), (2, .ref 18), (0, .ref r0), (1, .ref r1)] [vI z987] _ H981 _
              have o994 : (xline B n q d) = (3, q, q) := by
                unfold xline xl0 xl1 xl2 xl3 xl4 xl5 xl6 xl7 xper
                repeat first | rw [xs_0 (by omega)] | rw [xs_1 (by omega)] | rw [if_pos (by omega)] | rw [if_neg (by omega)]
                first | done | rfl | assumption | (exfalso; omega) | (refine Prod.ext ?_ (Prod.ext ?_ ?_) <;> (try dsimp only) <;> omega)
              have o994a : ((xline B n q d)).1 = 3 := by rw [o994]
              have o994b : ((xline B n q d)).2.1 = q := by rw [o994]
              have o994c : ((xline B n q d)).2.2 = q := by rw [o994]
              exact wp_zreturn e17 c17_67 rfl (by omega) ⟨rfl, w985, f993, z987, rfl, ⟨by omega, by omega⟩, (Or.inr ⟨by omega, by omega, by omega, by omega, by omega⟩)⟩
        · show wp _ _ 17 27 [(2, .ref 18), (0, .ref r0), (1, .ref r1)] [vI z969] _ H _
          refine wp_of e17 c17_27 (rw_aload_n (pc' := 28) (v := .ref 18) rfl rfl rfl ?_)
          have k995 : H 18 1 = 1 := (hW.2 18 _ (hW.1.2.2 2 (by decide))).2.2 1 (by decide) |> fun z => by have z1 : (1 : Int) ≤ H 18 1 ∧ H 18 1 ≤ 1 := z; omega
          refine wp_of e17 c17_28 (rw_getI (pc' := 31) (n := 2) (e := _) (lf_1_58).choose_spec.1 (lf_1_58).choose_spec.2.1 (hW.sh (hW.1.2.2 2 (by decide)) rfl) (by decide) rfl rfl ?_)
          rw [k995]
          refine wp_of e17 c17_31 (rw_icmp_lt (p1 := 68) (p2 := 34) (by decide) rfl ⟨by omega, by omega⟩ ⟨by omega, by omega⟩ (fun c996 => ?_) (fun c996 => ?_))
          · refine wp_of e17 c17_68 (rw_aload_n (pc' := 69) (v := .ref r0) rfl rfl rfl ?_)
            refine wp_of e17 c17_69 (xg_K (pc' := 72) lf_1_12 hW g0 sh_3 (by decide) (by decide) rfl qtk rfl ?_)
            have h997 : TP T H rb B := TC_tp hTC_tk qrb
            refine wp_of e17 c17_72 (xc_V (pc' := 75) (r := tk) (as := []) (st := []) (lm_1_74) rfl rfl (Nat.le_of_ble_eq_true rfl) hW gtk sh_4 (by decide) rfl (by decide) (u_16 (B := B) (n := n) (a := (xE B n q)) (q := (xN B n q)) hW gtk qrb grb (by omega) (by omega) (by omega) (rfl) h997) (fun R998 T999 H1000 p1001 => ?_))
            obtain ⟨e1002, w1004, f1005, e1003, p1006⟩ := p1001
            subst e1002
            subst e1003
            have f1008 := f0.tr f1005 rfl
            show wp _ _ 17 75 [(2, .ref 18), (0, .ref r0), (1, .ref r1)] [] _ H1000 _
            have u1009 := TC_k p1006
            refine wp_of e17 c17_75 (rw_gs (pc' := 78) (k := 2) rfl rfl rfl rfl ?_)
            refine wp_of e17 c17_78 (rw_aload_n (pc' := 79) (v := .ref 18) rfl rfl rfl ?_)
            refine wp_of e17 c17_79 (rw_ord (pc' := 82) rfl rfl rfl (by decide) (Nat.le_of_ble_eq_true rfl) rfl ?_)
            show wp _ _ 17 82 [(2, .ref 18), (0, .ref r0), (1, .ref r1)] [vI 2, .ref 2] _ H1000 _
            have k1010 : H1000 2 (2 : Int).toNat = 3 := (w1004.2 2 _ w1004.1.2.1).2.2 2 (by decide) |> fun z => by have z1 : (3 : Int) ≤ H1000 2 2 ∧ H1000 2 2 ≤ 3 := z; exact Int.le_antisymm z1.2 z1.1
            refine wp_of e17 c17_82 (rw_iaload (pc' := 83) (n := 11) (w1004.sh w1004.1.2.1 rfl) (by decide) (by decide) (by decide) rfl rfl ?_)
            rw [k1010]
            refine wp_of e17 c17_83 (rw_tsw (p1 := 156) ⟨by omega, by omega⟩ (by decide) ?_)
            refine wp_of e17 c17_156 (rw_aload_n (pc' := 157) (v := .ref r0) rfl rfl rfl ?_)
            refine wp_of e17 c17_157 (rw_aload_n (pc' := 158) (v := .ref r1) rfl rfl rfl ?_)
            have k1012 : H1000 r0 0 = H r0 0 := (f1005 r0 0 _ g0 rfl)
            have q1013 : H1000 r0 0 = (tk : Int) := k1012.trans qtk
            have k1014 : H1000 tk 0 = H tk 0 := (f1005 tk 0 _ gtk rfl)
            have q1015 : H1000 tk 0 = (rb : Int) := k1014.trans qrb
            have k1016 : H1000 r0 3 = H r0 3 := (f1005 r0 3 _ g0 rfl)
            have h1017 : DC T H1000 r1 d := (DC_fr hW g1 f1005 rfl hDC_r1)
            refine wp_of e17 c17_158 (xc_V (pc' := 161) (r := r0) (as := [.ref r1]) (st := []) (lm_1_96) rfl rfl (Nat.le_of_ble_eq_true rfl) w1004 g0 sh_3 (by decide) rfl (by decide) (u_32 (B := B) (n := n) (q := ((xN B n q))) (d := d) w1004 g0 g1 q1013 gtk q1015 grb p1006 h1017) (fun R1018 T1019 H1020 p1021 => ?_))
            obtain ⟨e1022, w1024, f1025, z1026, e1023, b1027, p1028⟩ := p1021
            subst e1022
            subst e1023
            rcases p1028 with ⟨a1029, a1030, a1031, a1032, a1033, a1034, a1035⟩ | ⟨a1036, a1037, a1038, a1039, a1040⟩
            · have f1041 := f1008.tr f1025 rfl
              show wp _ _ 17 161 [(2, .ref 18), (0, .ref r0), (1, .ref r1)] [vI z1026] _ H1020 _
              have u1042 := TC_k a1034
              have u1043 := DC_k a1035
              have o1044 : (xline B n q d) = (0, ((xN B n q)), (xN B n ((xN B n q)))) := by
                unfold xline xl0 xl1 xl2 xl3 xl4 xl5 xl6 xl7 xper
                repeat first | rw [xs_0 (by omega)] | rw [xs_1 (by omega)] | rw [if_pos (by omega)] | rw [if_neg (by omega)]
                first | done | rfl | assumption | (exfalso; omega) | (refine Prod.ext ?_ (Prod.ext ?_ ?_) <;> (try dsimp only) <;> omega)
              have o1044a : ((xline B n q d)).1 = 0 := by rw [o1044]
              have o1044b : ((xline B n q d)).2.1 = ((xN B n q)) := by rw [o1044]
              have o1044c : ((xline B n q d)).2.2 = (xN B n ((xN B n q))) := by rw [o1044]
              have o1045 : xdline B n q d = ((xdsex B n ((xN B n q)) d)) := by
                unfold xdline
                repeat first | rw [xs_0 (by omega)] | rw [xs_1 (by omega)] | rw [if_pos (by omega)] | rw [if_neg (by omega)]
                first | done | rfl
              exact wp_zreturn e17 c17_161 rfl (by omega) ⟨rfl, w1024, f1041, z1026, rfl, ⟨by omega, by omega⟩, (Or.inl ⟨by omega, by omega, by omega, by omega, by rw [o1044]; exact a1034, by rw [o1045]; exact a1035⟩)⟩
            · have f1046 := f1008.tr f1025 rfl
              show wp _ _ 17 161 [(2, .ref 18), (0, .ref r0), (1, .ref r1)] [vI z1026] _ H1020 _
              have o1047 : (xline B n q d) = ((xsex B n ((xN B n q)) d).1, (xsex B n ((xN B n q)) d).2.1, (xsex B n ((xN B n q)) d).2.2) := by
                unfold xline xl0 xl1 xl2 xl3 xl4 xl5 xl6 xl7 xper
                repeat first | rw [xs_0 (by omega)] | rw [xs_1 (by omega)] | rw [if_pos (by omega)] | rw [if_neg (by omega)]
                first | done | rfl | assumption | (exfalso; omega) | (refine Prod.ext ?_ (Prod.ext ?_ ?_) <;> (try dsimp only) <;> omega)
              have o1047a : ((xline B n q d)).1 = (xsex B n ((xN B n q)) d).1 := by rw [o1047]
              have o1047b : ((xline B n q d)).2.1 = (xsex B n ((xN B n q)) d).2.1 := by rw [o1047]
              have o1047c : ((xline B n q d)).2.2 = (xsex B n ((xN B n q)) d).2.2 := by rw [o1047]
              exact wp_zreturn e17 c17_161 rfl (by omega) ⟨rfl, w1024, f1046, z1026, rfl, ⟨by omega, by omega⟩, (Or.inr ⟨by omega, by omega, by omega, by omega, by omega⟩)⟩
          · exfalso
            omega
      · exfalso
        omega
    · subst c749
      show wp _ _ 17 4 [(0, .ref r0), (1, .ref r1)] [.ref 19] _ H _
      refine wp_of e17 c17_4 (rw_astore_n (pc' := 5) (v := .ref 19) (L' := [(2, .ref 19), (0, .ref r0), (1, .ref r1)]) rfl rfl rfl rfl ?_)
      refine wp_of e17 c17_5 (rw_aload_n (pc' := 6) (v := .ref 19) rfl rfl rfl ?_)
      refine wp_of e17 c17_6 (rw_ifnull_r (p1 := 16) (p2 := 9) (by decide) rfl ?_)
      refine wp_of e17 c17_9 (rw_aload_n (pc' := 10) (v := .ref 19) rfl rfl rfl ?_)
      have k1048 : H 19 1 = 3 := (hW.2 19 _ (hW.1.2.2 3 (by decide))).2.2 1 (by decide) |> fun z => by have z1 : (3 : Int) ≤ H 19 1 ∧ H 19 1 ≤ 3 := z; omega
      refine wp_of e17 c17_10 (rw_getI (pc' := 13) (n := 2) (e := _) (lf_1_58).choose_spec.1 (lf_1_58).choose_spec.2.1 (hW.sh (hW.1.2.2 3 (by decide)) rfl) (by decide) rfl rfl ?_)
      rw [k1048]
      refine wp_of e17 c17_13 (rw_if_ne (p1 := 22) (p2 := 16) (by decide) rfl ⟨by omega, by omega⟩ (fun c1049 => ?_) (fun c1049 => ?_))
      · refine wp_of e17 c17_22 (rw_aload_n (pc' := 23) (v := .ref r1) rfl rfl rfl ?_)
        refine wp_of e17 c17_23 (rw_aload_n (pc' := 24) (v := .ref 19) rfl rfl rfl ?_)
        refine wp_of e17 c17_24 (xc_V (pc' := 27) (r := r1) (as := [.ref 19]) (st := []) (lm_1_63) rfl rfl (Nat.le_of_ble_eq_true rfl) hW g1 sh_27 (by decide) rfl (by decide) (u_21_19  hW g1) (fun R1050 T1051 H1052 p1053 => ?_))
        obtain ⟨e1054, e1056, z1057, e1055, b1058, p1059⟩ := p1053
        subst e1054
        subst e1055
        subst e1056
        obtain ⟨a1060, a1061⟩ := p1059
        show wp _ _ 17 27 [(2, .ref 19), (0, .ref r0), (1, .ref r1)] [vI z1057] _ H _
        refine wp_of e17 c17_27 (rw_aload_n (pc' := 28) (v := .ref 19) rfl rfl rfl ?_)
        have k1062 : H 19 1 = 3 := (hW.2 19 _ (hW.1.2.2 3 (by decide))).2.2 1 (by decide) |> fun z => by have z1 : (3 : Int) ≤ H 19 1 ∧ H 19 1 ≤ 3 := z; omega
        refine wp_of e17 c17_28 (rw_getI (pc' := 31) (n := 2) (e := _) (lf_1_58).choose_spec.1 (lf_1_58).choose_spec.2.1 (hW.sh (hW.1.2.2 3 (by decide)) rfl) (by decide) rfl rfl ?_)
        rw [k1062]
        refine wp_of e17 c17_31 (rw_icmp_lt (p1 := 68) (p2 := 34) (by decide) rfl ⟨by omega, by omega⟩ ⟨by omega, by omega⟩ (fun c1063 => ?_) (fun c1063 => ?_))
        · refine wp_of e17 c17_68 (rw_aload_n (pc' := 69) (v := .ref r0) rfl rfl rfl ?_)
          refine wp_of e17 c17_69 (xg_K (pc' := 72) lf_1_12 hW g0 sh_3 (by decide) (by decide) rfl qtk rfl ?_)
          have h1064 : TP T H rb B := TC_tp hTC_tk qrb
          refine wp_of e17 c17_72 (xc_V (pc' := 75) (r := tk) (as := []) (st := []) (lm_1_74) rfl rfl (Nat.le_of_ble_eq_true rfl) hW gtk sh_4 (by decide) rfl (by decide) (u_16 (B := B) (n := n) (a := (xE B n q)) (q := (xN B n q)) hW gtk qrb grb (by omega) (by omega) (by omega) (rfl) h1064) (fun R1065 T1066 H1067 p1068 => ?_))
          obtain ⟨e1069, w1071, f1072, e1070, p1073⟩ := p1068
          subst e1069
          subst e1070
          have f1075 := f0.tr f1072 rfl
          show wp _ _ 17 75 [(2, .ref 19), (0, .ref r0), (1, .ref r1)] [] _ H1067 _
          have u1076 := TC_k p1073
          refine wp_of e17 c17_75 (rw_gs (pc' := 78) (k := 2) rfl rfl rfl rfl ?_)
          refine wp_of e17 c17_78 (rw_aload_n (pc' := 79) (v := .ref 19) rfl rfl rfl ?_)
          refine wp_of e17 c17_79 (rw_ord (pc' := 82) rfl rfl rfl (by decide) (Nat.le_of_ble_eq_true rfl) rfl ?_)
          show wp _ _ 17 82 [(2, .ref 19), (0, .ref r0), (1, .ref r1)] [vI 3, .ref 2] _ H1067 _
          have k1077 : H1067 2 (3 : Int).toNat = 4 := (w1071.2 2 _ w1071.1.2.1).2.2 3 (by decide) |> fun z => by have z1 : (4 : Int) ≤ H1067 2 3 ∧ H1067 2 3 ≤ 4 := z; exact Int.le_antisymm z1.2 z1.1
          refine wp_of e17 c17_82 (rw_iaload (pc' := 83) (n := 11) (w1071.sh w1071.1.2.1 rfl) (by decide) (by decide) (by decide) rfl rfl ?_)
          rw [k1077]
          refine wp_of e17 c17_83 (rw_tsw (p1 := 162) ⟨by omega, by omega⟩ (by decide) ?_)
          refine wp_of e17 c17_162 (rw_aload_n (pc' := 163) (v := .ref r0) rfl rfl rfl ?_)
          refine wp_of e17 c17_163 (rw_aload_n (pc' := 164) (v := .ref r1) rfl rfl rfl ?_)
          have k1079 : H1067 r0 0 = H r0 0 := (f1072 r0 0 _ g0 rfl)
          have q1080 : H1067 r0 0 = (tk : Int) := k1079.trans qtk
          have k1081 : H1067 tk 0 = H tk 0 := (f1072 tk 0 _ gtk rfl)
          have q1082 : H1067 tk 0 = (rb : Int) := k1081.trans qrb
          have k1083 : H1067 r0 3 = H r0 3 := (f1072 r0 3 _ g0 rfl)
          have h1084 : DC T H1067 r1 d := (DC_fr hW g1 f1072 rfl hDC_r1)
          have h1085 : DD T H1067 r1  := (DD_fr hW g1 f1072 rfl hDD_r1)
          refine wp_of e17 c17_164 (xc_V (pc' := 167) (r := r0) (as := [.ref r1]) (st := []) (lm_1_99) rfl rfl (Nat.le_of_ble_eq_true rfl) w1071 g0 sh_3 (by decide) rfl (by decide) (u_34 (B := B) (n := n) (q := ((xN B n q))) (d := d) w1071 g0 g1 q1080 gtk q1082 grb (by omega) p1073 h1084 h1085) (fun R1086 T1087 H1088 p1089 => ?_))
          obtain ⟨e1090, w1092, f1093, z1094, e1091, b1095, p1096⟩ := p1089
          subst e1090
          subst e1091
          rcases p1096 with ⟨a1097, a1098, a1099, a1100, a1101, a1102, a1103⟩ | ⟨a1104, a1105, a1106, a1107, a1108⟩
          · have f1109 := f1075.tr f1093 rfl
            show wp _ _ 17 167 [(2, .ref 19), (0, .ref r0), (1, .ref r1)] [vI z1094] _ H1088 _
            have u1110 := TC_k a1102
            have u1111 := DC_k a1103
            have o1112 : (xline B n q d) = (0, ((xN B n q)), (xN B n (xN B n (xN B n ((xN B n q)))))) := by
              unfold xline xl0 xl1 xl2 xl3 xl4 xl5 xl6 xl7 xper
              repeat first | rw [xs_0 (by omega)] | rw [xs_1 (by omega)] | rw [if_pos (by omega)] | rw [if_neg (by omega)]
              first | done | rfl | assumption | (exfalso; omega) | (refine Prod.ext ?_ (Prod.ext ?_ ?_) <;> (try dsimp only) <;> omega)
            have o1112a : ((xline B n q d)).1 = 0 := by rw [o1112]
            have o1112b : ((xline B n q d)).2.1 = ((xN B n q)) := by rw [o1112]
            have o1112c : ((xline B n q d)).2.2 = (xN B n (xN B n (xN B n ((xN B n q))))) := by rw [o1112]
            have o1113 : xdline B n q d = ((xdap B n ((xN B n q)) d)) := by
              unfold xdline
              repeat first | rw [xs_0 (by omega)] | rw [xs_1 (by omega)] | rw [if_pos (by omega)] | rw [if_neg (by omega)]
              first | done | rfl
            exact wp_zreturn e17 c17_167 rfl (by omega) ⟨rfl, w1092, f1109, z1094, rfl, ⟨by omega, by omega⟩, (Or.inl ⟨by omega, by omega, by omega, by omega, by rw [o1112]; exact a1102, by rw [o1113]; exact a1103⟩)⟩
          · have f1114 := f1075.tr f1093 rfl
            show wp _ _ 17 167 [(2, .ref 19), (0, .ref r0), (1, .ref r1)] [vI z1094] _ H1088 _
            have o1115 : (xline B n q d) = ((xap B n ((xN B n q)) d).1, (xap B n ((xN B n q)) d).2.1, (xap B n ((xN B n q)) d).2.2) := by
              unfold xline xl0 xl1 xl2 xl3 xl4 xl5 xl6 xl7 xper
              repeat first | rw [xs_0 (by omega)] | rw [xs_1 (by omega)] | rw [if_pos (by omega)] | rw [if_neg (by omega)]
              first | done | rfl | assumption | (exfalso; omega) | (refine Prod.ext ?_ (Prod.ext ?_ ?_) <;> (try dsimp only) <;> omega)
            have o1115a : ((xline B n q d)).1 = (xap B n ((xN B n q)) d).1 := by rw [o1115]
            have o1115b : ((xline B n q d)).2.1 = (xap B n ((xN B n q)) d).2.1 := by rw [o1115]
            have o1115c : ((xline B n q d)).2.2 = (xap B n ((xN B n q)) d).2.2 := by rw [o1115]
            exact wp_zreturn e17 c17_167 rfl (by omega) ⟨rfl, w1092, f1114, z1094, rfl, ⟨by omega, by omega⟩, (Or.inr ⟨by omega, by omega, by omega, by omega, by omega⟩)⟩
        · refine wp_of e17 c17_34 (rw_aload_n (pc' := 35) (v := .ref 19) rfl rfl rfl ?_)
          refine wp_of e17 c17_35 (rw_gs (pc' := 38) (k := 16) rfl rfl rfl rfl ?_)
          refine wp_of e17 c17_38 (rw_acmp_eq (p1 := 48) (p2 := 41) (a := some 19) (b := some 16) rfl rfl (by decide) rfl (fun q9 => absurd q9 (by decide)) (fun q9 => ?_))
          refine wp_of e17 c17_41 (rw_aload_n (pc' := 42) (v := .ref 19) rfl rfl rfl ?_)
          refine wp_of e17 c17_42 (rw_gs (pc' := 45) (k := 18) rfl rfl rfl rfl ?_)
          refine wp_of e17 c17_45 (rw_acmp_ne (p1 := 52) (p2 := 48) (a := some 19) (b := some 18) rfl rfl (by decide) rfl (fun q9 => ?_) (fun q9 => absurd q9 (by decide)))
          refine wp_of e17 c17_52 (rw_iconst (pc' := 53) rfl ?_)
          refine wp_of e17 c17_53 (rw_istore_n (pc' := 54) (z := 0) (L' := [(3, vI 0), (2, .ref 19), (0, .ref r0), (1, .ref r1)]) rfl rfl rfl ?_)
          refine wp_of e17 c17_54 (rw_aload_n (pc' := 55) (v := .ref r0) rfl rfl rfl ?_)
          refine wp_of e17 c17_55 (rw_iload_n (pc' := 56) (z := 0) rfl rfl ?_)
          refine wp_of e17 c17_56 (rw_if_eq (p1 := 63) (p2 := 59) (by decide) rfl ⟨by omega, by omega⟩ (fun c1116 => ?_) (fun c1116 => ?_))
          · refine wp_of e17 c17_63 (rw_iconst (pc' := 64) rfl ?_)
            refine wp_of e17 c17_64 (xc_V (pc' := 67) (r := r0) (as := [vI 5]) (st := []) (lm_1_47) rfl rfl (Nat.le_of_ble_eq_true rfl) hW g0 sh_3 (by decide) rfl (by decide) (u_20  hW g0 ⟨by omega, by omega⟩ qtk gtk) (fun R1117 T1118 H1119 p1120 => ?_))
            obtain ⟨e1121, w1123, f1124, z1125, e1122, b1126, p1127⟩ := p1120
            subst e1121
            subst e1122
            obtain ⟨a1128, a1129, a1130⟩ := p1127
            have f1131 := f0.tr f1124 rfl
            show wp _ _ 17 67 [(3, vI 0), (2, .ref 19), (0, .ref r0), (1, .ref r1)] [vI z1125] _ H1119 _
            have o1132 : (xline B n q d) = (5, q, q) := by
              unfold xline xl0 xl1 xl2 xl3 xl4 xl5 xl6 xl7 xper
              repeat first | rw [xs_0 (by omega)] | rw [xs_1 (by omega)] | rw [if_pos (by omega)] | rw [if_neg (by omega)]
              first | done | rfl | assumption | (exfalso; omega) | (refine Prod.ext ?_ (Prod.ext ?_ ?_) <;> (try dsimp only) <;> omega)
            have o1132a : ((xline B n q d)).1 = 5 := by rw [o1132]
            have o1132b : ((xline B n q d)).2.1 = q := by rw [o1132]
            have o1132c : ((xline B n q d)).2.2 = q := by rw [o1132]
            exact wp_zreturn e17 c17_67 rfl (by omega) ⟨rfl, w1123, f1131, z1125, rfl, ⟨by omega, by omega⟩, (Or.inr ⟨by omega, by omega, by omega, by omega, by omega⟩)⟩
          · exfalso
            omega
      · exfalso
        omega
    · subst c749
      show wp _ _ 17 4 [(0, .ref r0), (1, .ref r1)] [.ref 20] _ H _
      refine wp_of e17 c17_4 (rw_astore_n (pc' := 5) (v := .ref 20) (L' := [(2, .ref 20), (0, .ref r0), (1, .ref r1)]) rfl rfl rfl rfl ?_)
      refine wp_of e17 c17_5 (rw_aload_n (pc' := 6) (v := .ref 20) rfl rfl rfl ?_)
      refine wp_of e17 c17_6 (rw_ifnull_r (p1 := 16) (p2 := 9) (by decide) rfl ?_)
      refine wp_of e17 c17_9 (rw_aload_n (pc' := 10) (v := .ref 20) rfl rfl rfl ?_)
      have k1133 : H 20 1 = 3 := (hW.2 20 _ (hW.1.2.2 4 (by decide))).2.2 1 (by decide) |> fun z => by have z1 : (3 : Int) ≤ H 20 1 ∧ H 20 1 ≤ 3 := z; omega
      refine wp_of e17 c17_10 (rw_getI (pc' := 13) (n := 2) (e := _) (lf_1_58).choose_spec.1 (lf_1_58).choose_spec.2.1 (hW.sh (hW.1.2.2 4 (by decide)) rfl) (by decide) rfl rfl ?_)
      rw [k1133]
      refine wp_of e17 c17_13 (rw_if_ne (p1 := 22) (p2 := 16) (by decide) rfl ⟨by omega, by omega⟩ (fun c1134 => ?_) (fun c1134 => ?_))
      · refine wp_of e17 c17_22 (rw_aload_n (pc' := 23) (v := .ref r1) rfl rfl rfl ?_)
        refine wp_of e17 c17_23 (rw_aload_n (pc' := 24) (v := .ref 20) rfl rfl rfl ?_)
        refine wp_of e17 c17_24 (xc_V (pc' := 27) (r := r1) (as := [.ref 20]) (st := []) (lm_1_63) rfl rfl (Nat.le_of_ble_eq_true rfl) hW g1 sh_27 (by decide) rfl (by decide) (u_21_20  hW g1) (fun R1135 T1136 H1137 p1138 => ?_))
        obtain ⟨e1139, e1141, z1142, e1140, b1143, p1144⟩ := p1138
        subst e1139
        subst e1140
        subst e1141
        obtain ⟨a1145, a1146⟩ := p1144
        show wp _ _ 17 27 [(2, .ref 20), (0, .ref r0), (1, .ref r1)] [vI z1142] _ H _
        refine wp_of e17 c17_27 (rw_aload_n (pc' := 28) (v := .ref 20) rfl rfl rfl ?_)
        have k1147 : H 20 1 = 3 := (hW.2 20 _ (hW.1.2.2 4 (by decide))).2.2 1 (by decide) |> fun z => by have z1 : (3 : Int) ≤ H 20 1 ∧ H 20 1 ≤ 3 := z; omega
        refine wp_of e17 c17_28 (rw_getI (pc' := 31) (n := 2) (e := _) (lf_1_58).choose_spec.1 (lf_1_58).choose_spec.2.1 (hW.sh (hW.1.2.2 4 (by decide)) rfl) (by decide) rfl rfl ?_)
        rw [k1147]
        refine wp_of e17 c17_31 (rw_icmp_lt (p1 := 68) (p2 := 34) (by decide) rfl ⟨by omega, by omega⟩ ⟨by omega, by omega⟩ (fun c1148 => ?_) (fun c1148 => ?_))
        · refine wp_of e17 c17_68 (rw_aload_n (pc' := 69) (v := .ref r0) rfl rfl rfl ?_)
          refine wp_of e17 c17_69 (xg_K (pc' := 72) lf_1_12 hW g0 sh_3 (by decide) (by decide) rfl qtk rfl ?_)
          have h1149 : TP T H rb B := TC_tp hTC_tk qrb
          refine wp_of e17 c17_72 (xc_V (pc' := 75) (r := tk) (as := []) (st := []) (lm_1_74) rfl rfl (Nat.le_of_ble_eq_true rfl) hW gtk sh_4 (by decide) rfl (by decide) (u_16 (B := B) (n := n) (a := (xE B n q)) (q := (xN B n q)) hW gtk qrb grb (by omega) (by omega) (by omega) (rfl) h1149) (fun R1150 T1151 H1152 p1153 => ?_))
          obtain ⟨e1154, w1156, f1157, e1155, p1158⟩ := p1153
          subst e1154
          subst e1155
          have f1160 := f0.tr f1157 rfl
          show wp _ _ 17 75 [(2, .ref 20), (0, .ref r0), (1, .ref r1)] [] _ H1152 _
          have u1161 := TC_k p1158
          refine wp_of e17 c17_75 (rw_gs (pc' := 78) (k := 2) rfl rfl rfl rfl ?_)
          refine wp_of e17 c17_78 (rw_aload_n (pc' := 79) (v := .ref 20) rfl rfl rfl ?_)
          refine wp_of e17 c17_79 (rw_ord (pc' := 82) rfl rfl rfl (by decide) (Nat.le_of_ble_eq_true rfl) rfl ?_)
          show wp _ _ 17 82 [(2, .ref 20), (0, .ref r0), (1, .ref r1)] [vI 4, .ref 2] _ H1152 _
          have k1162 : H1152 2 (4 : Int).toNat = 5 := (w1156.2 2 _ w1156.1.2.1).2.2 4 (by decide) |> fun z => by have z1 : (5 : Int) ≤ H1152 2 4 ∧ H1152 2 4 ≤ 5 := z; exact Int.le_antisymm z1.2 z1.1
          refine wp_of e17 c17_82 (rw_iaload (pc' := 83) (n := 11) (w1156.sh w1156.1.2.1 rfl) (by decide) (by decide) (by decide) rfl rfl ?_)
          rw [k1162]
          refine wp_of e17 c17_83 (rw_tsw (p1 := 168) ⟨by omega, by omega⟩ (by decide) ?_)
          refine wp_of e17 c17_168 (rw_aload_n (pc' := 169) (v := .ref r0) rfl rfl rfl ?_)
          refine wp_of e17 c17_169 (rw_aload_n (pc' := 170) (v := .ref r1) rfl rfl rfl ?_)
          have k1164 : H1152 r0 0 = H r0 0 := (f1157 r0 0 _ g0 rfl)
          have q1165 : H1152 r0 0 = (tk : Int) := k1164.trans qtk
          have k1166 : H1152 tk 0 = H tk 0 := (f1157 tk 0 _ gtk rfl)
          have q1167 : H1152 tk 0 = (rb : Int) := k1166.trans qrb
          have k1168 : H1152 r0 3 = H r0 3 := (f1157 r0 3 _ g0 rfl)
          have h1169 : DC T H1152 r1 d := (DC_fr hW g1 f1157 rfl hDC_r1)
          refine wp_of e17 c17_170 (xc_V (pc' := 173) (r := r0) (as := [.ref r1]) (st := []) (lm_1_102) rfl rfl (Nat.le_of_ble_eq_true rfl) w1156 g0 sh_3 (by decide) rfl (by decide) (u_37 (B := B) (n := n) (q := ((xN B n q))) (d := d) w1156 g0 g1 q1165 gtk q1167 grb (by omega) p1158 h1169) (fun R1170 T1171 H1172 p1173 => ?_))
          obtain ⟨e1174, w1176, f1177, z1178, e1175, b1179, p1180⟩ := p1173
          subst e1174
          subst e1175
          rcases p1180 with ⟨a1181, a1182, a1183, a1184, a1185, a1186, a1187⟩ | ⟨a1188, a1189, a1190, a1191, a1192⟩
          · have f1193 := f1160.tr f1177 rfl
            show wp _ _ 17 173 [(2, .ref 20), (0, .ref r0), (1, .ref r1)] [vI z1178] _ H1172 _
            have u1194 := TC_k a1186
            have u1195 := DC_k a1187
            have o1196 : (xline B n q d) = (0, ((xN B n q)), (xN B n ((xN B n q)))) := by
              unfold xline xl0 xl1 xl2 xl3 xl4 xl5 xl6 xl7 xper
              repeat first | rw [xs_0 (by omega)] | rw [xs_1 (by omega)] | rw [if_pos (by omega)] | rw [if_neg (by omega)]
              first | done | rfl | assumption | (exfalso; omega) | (refine Prod.ext ?_ (Prod.ext ?_ ?_) <;> (try dsimp only) <;> omega)
            have o1196a : ((xline B n q d)).1 = 0 := by rw [o1196]
            have o1196b : ((xline B n q d)).2.1 = ((xN B n q)) := by rw [o1196]
            have o1196c : ((xline B n q d)).2.2 = (xN B n ((xN B n q))) := by rw [o1196]
            have o1197 : xdline B n q d = ((xdbo B n ((xN B n q)) d)) := by
              unfold xdline
              repeat first | rw [xs_0 (by omega)] | rw [xs_1 (by omega)] | rw [if_pos (by omega)] | rw [if_neg (by omega)]
              first | done | rfl
            exact wp_zreturn e17 c17_173 rfl (by omega) ⟨rfl, w1176, f1193, z1178, rfl, ⟨by omega, by omega⟩, (Or.inl ⟨by omega, by omega, by omega, by omega, by rw [o1196]; exact a1186, by rw [o1197]; exact a1187⟩)⟩
          · have f1198 := f1160.tr f1177 rfl
            show wp _ _ 17 173 [(2, .ref 20), (0, .ref r0), (1, .ref r1)] [vI z1178] _ H1172 _
            have o1199 : (xline B n q d) = ((xbo B n ((xN B n q))).1, (xbo B n ((xN B n q))).2.1, (xbo B n ((xN B n q))).2.2) := by
              unfold xline xl0 xl1 xl2 xl3 xl4 xl5 xl6 xl7 xper
              repeat first | rw [xs_0 (by omega)] | rw [xs_1 (by omega)] | rw [if_pos (by omega)] | rw [if_neg (by omega)]
              first | done | rfl | assumption | (exfalso; omega) | (refine Prod.ext ?_ (Prod.ext ?_ ?_) <;> (try dsimp only) <;> omega)
            have o1199a : ((xline B n q d)).1 = (xbo B n ((xN B n q))).1 := by rw [o1199]
            have o1199b : ((xline B n q d)).2.1 = (xbo B n ((xN B n q))).2.1 := by rw [o1199]
            have o1199c : ((xline B n q d)).2.2 = (xbo B n ((xN B n q))).2.2 := by rw [o1199]
            exact wp_zreturn e17 c17_173 rfl (by omega) ⟨rfl, w1176, f1198, z1178, rfl, ⟨by omega, by omega⟩, (Or.inr ⟨by omega, by omega, by omega, by omega, by omega⟩)⟩
        · refine wp_of e17 c17_34 (rw_aload_n (pc' := 35) (v := .ref 20) rfl rfl rfl ?_)
          refine wp_of e17 c17_35 (rw_gs (pc' := 38) (k := 16) rfl rfl rfl rfl ?_)
          refine wp_of e17 c17_38 (rw_acmp_eq (p1 := 48) (p2 := 41) (a := some 20) (b := some 16) rfl rfl (by decide) rfl (fun q9 => absurd q9 (by decide)) (fun q9 => ?_))
          refine wp_of e17 c17_41 (rw_aload_n (pc' := 42) (v := .ref 20) rfl rfl rfl ?_)
          refine wp_of e17 c17_42 (rw_gs (pc' := 45) (k := 18) rfl rfl rfl rfl ?_)
          refine wp_of e17 c17_45 (rw_acmp_ne (p1 := 52) (p2 := 48) (a := some 20) (b := some 18) rfl rfl (by decide) rfl (fun q9 => ?_) (fun q9 => absurd q9 (by decide)))
          refine wp_of e17 c17_52 (rw_iconst (pc' := 53) rfl ?_)
          refine wp_of e17 c17_53 (rw_istore_n (pc' := 54) (z := 0) (L' := [(3, vI 0), (2, .ref 20), (0, .ref r0), (1, .ref r1)]) rfl rfl rfl ?_)
          refine wp_of e17 c17_54 (rw_aload_n (pc' := 55) (v := .ref r0) rfl rfl rfl ?_)
          refine wp_of e17 c17_55 (rw_iload_n (pc' := 56) (z := 0) rfl rfl ?_)
          refine wp_of e17 c17_56 (rw_if_eq (p1 := 63) (p2 := 59) (by decide) rfl ⟨by omega, by omega⟩ (fun c1200 => ?_) (fun c1200 => ?_))
          · refine wp_of e17 c17_63 (rw_iconst (pc' := 64) rfl ?_)
            refine wp_of e17 c17_64 (xc_V (pc' := 67) (r := r0) (as := [vI 5]) (st := []) (lm_1_47) rfl rfl (Nat.le_of_ble_eq_true rfl) hW g0 sh_3 (by decide) rfl (by decide) (u_20  hW g0 ⟨by omega, by omega⟩ qtk gtk) (fun R1201 T1202 H1203 p1204 => ?_))
            obtain ⟨e1205, w1207, f1208, z1209, e1206, b1210, p1211⟩ := p1204
            subst e1205
            subst e1206
            obtain ⟨a1212, a1213, a1214⟩ := p1211
            have f1215 := f0.tr f1208 rfl
            show wp _ _ 17 67 [(3, vI 0), (2, .ref 20), (0, .ref r0), (1, .ref r1)] [vI z1209] _ H1203 _
            have o1216 : (xline B n q d) = (5, q, q) := by
              unfold xline xl0 xl1 xl2 xl3 xl4 xl5 xl6 xl7 xper
              repeat first | rw [xs_0 (by omega)] | rw [xs_1 (by omega)] | rw [if_pos (by omega)] | rw [if_neg (by omega)]
              first | done | rfl | assumption | (exfalso; omega) | (refine Prod.ext ?_ (Prod.ext ?_ ?_) <;> (try dsimp only) <;> omega)
            have o1216a : ((xline B n q d)).1 = 5 := by rw [o1216]
            have o1216b : ((xline B n q d)).2.1 = q := by rw [o1216]
            have o1216c : ((xline B n q d)).2.2 = q := by rw [o1216]
            exact wp_zreturn e17 c17_67 rfl (by omega) ⟨rfl, w1207, f1215, z1209, rfl, ⟨by omega, by omega⟩, (Or.inr ⟨by omega, by omega, by omega, by omega, by omega⟩)⟩
          · exfalso
            omega
      · exfalso
        omega
    · subst c749
      show wp _ _ 17 4 [(0, .ref r0), (1, .ref r1)] [.ref 21] _ H _
      refine wp_of e17 c17_4 (rw_astore_n (pc' := 5) (v := .ref 21) (L' := [(2, .ref 21), (0, .ref r0), (1, .ref r1)]) rfl rfl rfl rfl ?_)
      refine wp_of e17 c17_5 (rw_aload_n (pc' := 6) (v := .ref 21) rfl rfl rfl ?_)
      refine wp_of e17 c17_6 (rw_ifnull_r (p1 := 16) (p2 := 9) (by decide) rfl ?_)
      refine wp_of e17 c17_9 (rw_aload_n (pc' := 10) (v := .ref 21) rfl rfl rfl ?_)
      have k1217 : H 21 1 = 24 := (hW.2 21 _ (hW.1.2.2 5 (by decide))).2.2 1 (by decide) |> fun z => by have z1 : (24 : Int) ≤ H 21 1 ∧ H 21 1 ≤ 24 := z; omega
      refine wp_of e17 c17_10 (rw_getI (pc' := 13) (n := 2) (e := _) (lf_1_58).choose_spec.1 (lf_1_58).choose_spec.2.1 (hW.sh (hW.1.2.2 5 (by decide)) rfl) (by decide) rfl rfl ?_)
      rw [k1217]
      refine wp_of e17 c17_13 (rw_if_ne (p1 := 22) (p2 := 16) (by decide) rfl ⟨by omega, by omega⟩ (fun c1218 => ?_) (fun c1218 => ?_))
      · refine wp_of e17 c17_22 (rw_aload_n (pc' := 23) (v := .ref r1) rfl rfl rfl ?_)
        refine wp_of e17 c17_23 (rw_aload_n (pc' := 24) (v := .ref 21) rfl rfl rfl ?_)
        refine wp_of e17 c17_24 (xc_V (pc' := 27) (r := r1) (as := [.ref 21]) (st := []) (lm_1_63) rfl rfl (Nat.le_of_ble_eq_true rfl) hW g1 sh_27 (by decide) rfl (by decide) (u_21_21  hW g1) (fun R1219 T1220 H1221 p1222 => ?_))
        obtain ⟨e1223, e1225, z1226, e1224, b1227, p1228⟩ := p1222
        subst e1223
        subst e1224
        subst e1225
        obtain ⟨a1229, a1230⟩ := p1228
        show wp _ _ 17 27 [(2, .ref 21), (0, .ref r0), (1, .ref r1)] [vI z1226] _ H _
        refine wp_of e17 c17_27 (rw_aload_n (pc' := 28) (v := .ref 21) rfl rfl rfl ?_)
        have k1231 : H 21 1 = 24 := (hW.2 21 _ (hW.1.2.2 5 (by decide))).2.2 1 (by decide) |> fun z => by have z1 : (24 : Int) ≤ H 21 1 ∧ H 21 1 ≤ 24 := z; omega
        refine wp_of e17 c17_28 (rw_getI (pc' := 31) (n := 2) (e := _) (lf_1_58).choose_spec.1 (lf_1_58).choose_spec.2.1 (hW.sh (hW.1.2.2 5 (by decide)) rfl) (by decide) rfl rfl ?_)
        rw [k1231]
        refine wp_of e17 c17_31 (rw_icmp_lt (p1 := 68) (p2 := 34) (by decide) rfl ⟨by omega, by omega⟩ ⟨by omega, by omega⟩ (fun c1232 => ?_) (fun c1232 => ?_))
        · refine wp_of e17 c17_68 (rw_aload_n (pc' := 69) (v := .ref r0) rfl rfl rfl ?_)
          refine wp_of e17 c17_69 (xg_K (pc' := 72) lf_1_12 hW g0 sh_3 (by decide) (by decide) rfl qtk rfl ?_)
          have h1233 : TP T H rb B := TC_tp hTC_tk qrb
          refine wp_of e17 c17_72 (xc_V (pc' := 75) (r := tk) (as := []) (st := []) (lm_1_74) rfl rfl (Nat.le_of_ble_eq_true rfl) hW gtk sh_4 (by decide) rfl (by decide) (u_16 (B := B) (n := n) (a := (xE B n q)) (q := (xN B n q)) hW gtk qrb grb (by omega) (by omega) (by omega) (rfl) h1233) (fun R1234 T1235 H1236 p1237 => ?_))
          obtain ⟨e1238, w1240, f1241, e1239, p1242⟩ := p1237
          subst e1238
          subst e1239
          have f1244 := f0.tr f1241 rfl
          show wp _ _ 17 75 [(2, .ref 21), (0, .ref r0), (1, .ref r1)] [] _ H1236 _
          have u1245 := TC_k p1242
          refine wp_of e17 c17_75 (rw_gs (pc' := 78) (k := 2) rfl rfl rfl rfl ?_)
          refine wp_of e17 c17_78 (rw_aload_n (pc' := 79) (v := .ref 21) rfl rfl rfl ?_)
          refine wp_of e17 c17_79 (rw_ord (pc' := 82) rfl rfl rfl (by decide) (Nat.le_of_ble_eq_true rfl) rfl ?_)
          show wp _ _ 17 82 [(2, .ref 21), (0, .ref r0), (1, .ref r1)] [vI 5, .ref 2] _ H1236 _
          have k1246 : H1236 2 (5 : Int).toNat = 6 := (w1240.2 2 _ w1240.1.2.1).2.2 5 (by decide) |> fun z => by have z1 : (6 : Int) ≤ H1236 2 5 ∧ H1236 2 5 ≤ 6 := z; exact Int.le_antisymm z1.2 z1.1
          refine wp_of e17 c17_82 (rw_iaload (pc' := 83) (n := 11) (w1240.sh w1240.1.2.1 rfl) (by decide) (by decide) (by decide) rfl rfl ?_)
          rw [k1246]
          refine wp_of e17 c17_83 (rw_tsw (p1 := 174) ⟨by omega, by omega⟩ (by decide) ?_)
          refine wp_of e17 c17_174 (rw_aload_n (pc' := 175) (v := .ref r0) rfl rfl rfl ?_)
          refine wp_of e17 c17_175 (rw_aload_n (pc' := 176) (v := .ref r1) rfl rfl rfl ?_)
          have k1248 : H1236 r0 0 = H r0 0 := (f1241 r0 0 _ g0 rfl)
          have q1249 : H1236 r0 0 = (tk : Int) := k1248.trans qtk
          have k1250 : H1236 tk 0 = H tk 0 := (f1241 tk 0 _ gtk rfl)
          have q1251 : H1236 tk 0 = (rb : Int) := k1250.trans qrb
          have k1252 : H1236 r0 3 = H r0 3 := (f1241 r0 3 _ g0 rfl)
          have h1253 : DC T H1236 r1 d := (DC_fr hW g1 f1241 rfl hDC_r1)
          refine wp_of e17 c17_176 (xc_V (pc' := 179) (r := r0) (as := [.ref r1]) (st := []) (lm_1_105) rfl rfl (Nat.le_of_ble_eq_true rfl) w1240 g0 sh_3 (by decide) rfl (by decide) (u_38 (B := B) (n := n) (q := ((xN B n q))) (d := d) w1240 g0 g1 q1249 gtk q1251 grb p1242 h1253) (fun R1254 T1255 H1256 p1257 => ?_))
          obtain ⟨e1258, w1260, f1261, z1262, e1259, b1263, p1264⟩ := p1257
          subst e1258
          subst e1259
          rcases p1264 with ⟨a1265, a1266, a1267, a1268, a1269, a1270, a1271⟩ | ⟨a1272, a1273, a1274, a1275, a1276⟩
          · have f1277 := f1244.tr f1261 rfl
            show wp _ _ 17 179 [(2, .ref 21), (0, .ref r0), (1, .ref r1)] [vI z1262] _ H1256 _
            have u1278 := TC_k a1270
            have u1279 := DC_k a1271
            have o1280 : (xline B n q d) = (0, ((xN B n q)), (xN B n (xN B n (xN B n ((xN B n q)))))) := by
              unfold xline xl0 xl1 xl2 xl3 xl4 xl5 xl6 xl7 xper
              repeat first | rw [xs_0 (by omega)] | rw [xs_1 (by omega)] | rw [if_pos (by omega)] | rw [if_neg (by omega)]
              first | done | rfl | assumption | (exfalso; omega) | (refine Prod.ext ?_ (Prod.ext ?_ ?_) <;> (try dsimp only) <;> omega)
            have o1280a : ((xline B n q d)).1 = 0 := by rw [o1280]
            have o1280b : ((xline B n q d)).2.1 = ((xN B n q)) := by rw [o1280]
            have o1280c : ((xline B n q d)).2.2 = (xN B n (xN B n (xN B n ((xN B n q))))) := by rw [o1280]
            have o1281 : xdline B n q d = ((xdst B n ((xN B n q)) d)) := by
              unfold xdline
              repeat first | rw [xs_0 (by omega)] | rw [xs_1 (by omega)] | rw [if_pos (by omega)] | rw [if_neg (by omega)]
              first | done | rfl
            exact wp_zreturn e17 c17_179 rfl (by omega) ⟨rfl, w1260, f1277, z1262, rfl, ⟨by omega, by omega⟩, (Or.inl ⟨by omega, by omega, by omega, by omega, by rw [o1280]; exact a1270, by rw [o1281]; exact a1271⟩)⟩
          · have f1282 := f1244.tr f1261 rfl
            show wp _ _ 17 179 [(2, .ref 21), (0, .ref r0), (1, .ref r1)] [vI z1262] _ H1256 _
            have o1283 : (xline B n q d) = ((xst B n ((xN B n q)) d).1, (xst B n ((xN B n q)) d).2.1, (xst B n ((xN B n q)) d).2.2) := by
              unfold xline xl0 xl1 xl2 xl3 xl4 xl5 xl6 xl7 xper
              repeat first | rw [xs_0 (by omega)] | rw [xs_1 (by omega)] | rw [if_pos (by omega)] | rw [if_neg (by omega)]
              first | done | rfl | assumption | (exfalso; omega) | (refine Prod.ext ?_ (Prod.ext ?_ ?_) <;> (try dsimp only) <;> omega)
            have o1283a : ((xline B n q d)).1 = (xst B n ((xN B n q)) d).1 := by rw [o1283]
            have o1283b : ((xline B n q d)).2.1 = (xst B n ((xN B n q)) d).2.1 := by rw [o1283]
            have o1283c : ((xline B n q d)).2.2 = (xst B n ((xN B n q)) d).2.2 := by rw [o1283]
            exact wp_zreturn e17 c17_179 rfl (by omega) ⟨rfl, w1260, f1282, z1262, rfl, ⟨by omega, by omega⟩, (Or.inr ⟨by omega, by omega, by omega, by omega, by omega⟩)⟩
        · refine wp_of e17 c17_34 (rw_aload_n (pc' := 35) (v := .ref 21) rfl rfl rfl ?_)
          refine wp_of e17 c17_35 (rw_gs (pc' := 38) (k := 16) rfl rfl rfl rfl ?_)
          refine wp_of e17 c17_38 (rw_acmp_eq (p1 := 48) (p2 := 41) (a := some 21) (b := some 16) rfl rfl (by decide) rfl (fun q9 => absurd q9 (by decide)) (fun q9 => ?_))
          refine wp_of e17 c17_41 (rw_aload_n (pc' := 42) (v := .ref 21) rfl rfl rfl ?_)
          refine wp_of e17 c17_42 (rw_gs (pc' := 45) (k := 18) rfl rfl rfl rfl ?_)
          refine wp_of e17 c17_45 (rw_acmp_ne (p1 := 52) (p2 := 48) (a := some 21) (b := some 18) rfl rfl (by decide) rfl (fun q9 => ?_) (fun q9 => absurd q9 (by decide)))
          refine wp_of e17 c17_52 (rw_iconst (pc' := 53) rfl ?_)
          refine wp_of e17 c17_53 (rw_istore_n (pc' := 54) (z := 0) (L' := [(3, vI 0), (2, .ref 21), (0, .ref r0), (1, .ref r1)]) rfl rfl rfl ?_)
          refine wp_of e17 c17_54 (rw_aload_n (pc' := 55) (v := .ref r0) rfl rfl rfl ?_)
          refine wp_of e17 c17_55 (rw_iload_n (pc' := 56) (z := 0) rfl rfl ?_)
          refine wp_of e17 c17_56 (rw_if_eq (p1 := 63) (p2 := 59) (by decide) rfl ⟨by omega, by omega⟩ (fun c1284 => ?_) (fun c1284 => ?_))
          · refine wp_of e17 c17_63 (rw_iconst (pc' := 64) rfl ?_)
            refine wp_of e17 c17_64 (xc_V (pc' := 67) (r := r0) (as := [vI 5]) (st := []) (lm_1_47) rfl rfl (Nat.le_of_ble_eq_true rfl) hW g0 sh_3 (by decide) rfl (by decide) (u_20  hW g0 ⟨by omega, by omega⟩ qtk gtk) (fun R1285 T1286 H1287 p1288 => ?_))
            obtain ⟨e1289, w1291, f1292, z1293, e1290, b1294, p1295⟩ := p1288
            subst e1289
            subst e1290
            obtain ⟨a1296, a1297, a1298⟩ := p1295
            have f1299 := f0.tr f1292 rfl
            show wp _ _ 17 67 [(3, vI 0), (2, .ref 21), (0, .ref r0), (1, .ref r1)] [vI z1293] _ H1287 _
            have o1300 : (xline B n q d) = (5, q, q) := by
              unfold xline xl0 xl1 xl2 xl3 xl4 xl5 xl6 xl7 xper
              repeat first | rw [xs_0 (by omega)] | rw [xs_1 (by omega)] | rw [if_pos (by omega)] | rw [if_neg (by omega)]
              first | done | rfl | assumption | (exfalso; omega) | (refine Prod.ext ?_ (Prod.ext ?_ ?_) <;> (try dsimp only) <;> omega)
            have o1300a : ((xline B n q d)).1 = 5 := by rw [o1300]
            have o1300b : ((xline B n q d)).2.1 = q := by rw [o1300]
            have o1300c : ((xline B n q d)).2.2 = q := by rw [o1300]
            exact wp_zreturn e17 c17_67 rfl (by omega) ⟨rfl, w1291, f1299, z1293, rfl, ⟨by omega, by omega⟩, (Or.inr ⟨by omega, by omega, by omega, by omega, by omega⟩)⟩
          · exfalso
            omega
      · exfalso
        omega
    · subst c749
      show wp _ _ 17 4 [(0, .ref r0), (1, .ref r1)] [.ref 22] _ H _
      refine wp_of e17 c17_4 (rw_astore_n (pc' := 5) (v := .ref 22) (L' := [(2, .ref 22), (0, .ref r0), (1, .ref r1)]) rfl rfl rfl rfl ?_)
      refine wp_of e17 c17_5 (rw_aload_n (pc' := 6) (v := .ref 22) rfl rfl rfl ?_)
      refine wp_of e17 c17_6 (rw_ifnull_r (p1 := 16) (p2 := 9) (by decide) rfl ?_)
      refine wp_of e17 c17_9 (rw_aload_n (pc' := 10) (v := .ref 22) rfl rfl rfl ?_)
      have k1301 : H 22 1 = 4 := (hW.2 22 _ (hW.1.2.2 6 (by decide))).2.2 1 (by decide) |> fun z => by have z1 : (4 : Int) ≤ H 22 1 ∧ H 22 1 ≤ 4 := z; omega
      refine wp_of e17 c17_10 (rw_getI (pc' := 13) (n := 2) (e := _) (lf_1_58).choose_spec.1 (lf_1_58).choose_spec.2.1 (hW.sh (hW.1.2.2 6 (by decide)) rfl) (by decide) rfl rfl ?_)
      rw [k1301]
      refine wp_of e17 c17_13 (rw_if_ne (p1 := 22) (p2 := 16) (by decide) rfl ⟨by omega, by omega⟩ (fun c1302 => ?_) (fun c1302 => ?_))
      · refine wp_of e17 c17_22 (rw_aload_n (pc' := 23) (v := .ref r1) rfl rfl rfl ?_)
        refine wp_of e17 c17_23 (rw_aload_n (pc' := 24) (v := .ref 22) rfl rfl rfl ?_)
        refine wp_of e17 c17_24 (xc_V (pc' := 27) (r := r1) (as := [.ref 22]) (st := []) (lm_1_63) rfl rfl (Nat.le_of_ble_eq_true rfl) hW g1 sh_27 (by decide) rfl (by decide) (u_21_22  hW g1) (fun R1303 T1304 H1305 p1306 => ?_))
        obtain ⟨e1307, e1309, z1310, e1308, b1311, p1312⟩ := p1306
        subst e1307
        subst e1308
        subst e1309
        obtain ⟨a1313, a1314⟩ := p1312
        show wp _ _ 17 27 [(2, .ref 22), (0, .ref r0), (1, .ref r1)] [vI z1310] _ H _
        refine wp_of e17 c17_27 (rw_aload_n (pc' := 28) (v := .ref 22) rfl rfl rfl ?_)
        have k1315 : H 22 1 = 4 := (hW.2 22 _ (hW.1.2.2 6 (by decide))).2.2 1 (by decide) |> fun z => by have z1 : (4 : Int) ≤ H 22 1 ∧ H 22 1 ≤ 4 := z; omega
        refine wp_of e17 c17_28 (rw_getI (pc' := 31) (n := 2) (e := _) (lf_1_58).choose_spec.1 (lf_1_58).choose_spec.2.1 (hW.sh (hW.1.2.2 6 (by decide)) rfl) (by decide) rfl rfl ?_)
        rw [k1315]
        refine wp_of e17 c17_31 (rw_icmp_lt (p1 := 68) (p2 := 34) (by decide) rfl ⟨by omega, by omega⟩ ⟨by omega, by omega⟩ (fun c1316 => ?_) (fun c1316 => ?_))
        · refine wp_of e17 c17_68 (rw_aload_n (pc' := 69) (v := .ref r0) rfl rfl rfl ?_)
          refine wp_of e17 c17_69 (xg_K (pc' := 72) lf_1_12 hW g0 sh_3 (by decide) (by decide) rfl qtk rfl ?_)
          have h1317 : TP T H rb B := TC_tp hTC_tk qrb
          refine wp_of e17 c17_72 (xc_V (pc' := 75) (r := tk) (as := []) (st := []) (lm_1_74) rfl rfl (Nat.le_of_ble_eq_true rfl) hW gtk sh_4 (by decide) rfl (by decide) (u_16 (B := B) (n := n) (a := (xE B n q)) (q := (xN B n q)) hW gtk qrb grb (by omega) (by omega) (by omega) (rfl) h1317) (fun R1318 T1319 H1320 p1321 => ?_))
          obtain ⟨e1322, w1324, f1325, e1323, p1326⟩ := p1321
          subst e1322
          subst e1323
          have f1328 := f0.tr f1325 rfl
          show wp _ _ 17 75 [(2, .ref 22), (0, .ref r0), (1, .ref r1)] [] _ H1320 _
          have u1329 := TC_k p1326
          refine wp_of e17 c17_75 (rw_gs (pc' := 78) (k := 2) rfl rfl rfl rfl ?_)
          refine wp_of e17 c17_78 (rw_aload_n (pc' := 79) (v := .ref 22) rfl rfl rfl ?_)
          refine wp_of e17 c17_79 (rw_ord (pc' := 82) rfl rfl rfl (by decide) (Nat.le_of_ble_eq_true rfl) rfl ?_)
          show wp _ _ 17 82 [(2, .ref 22), (0, .ref r0), (1, .ref r1)] [vI 6, .ref 2] _ H1320 _
          have k1330 : H1320 2 (6 : Int).toNat = 7 := (w1324.2 2 _ w1324.1.2.1).2.2 6 (by decide) |> fun z => by have z1 : (7 : Int) ≤ H1320 2 6 ∧ H1320 2 6 ≤ 7 := z; exact Int.le_antisymm z1.2 z1.1
          refine wp_of e17 c17_82 (rw_iaload (pc' := 83) (n := 11) (w1324.sh w1324.1.2.1 rfl) (by decide) (by decide) (by decide) rfl rfl ?_)
          rw [k1330]
          refine wp_of e17 c17_83 (rw_tsw (p1 := 180) ⟨by omega, by omega⟩ (by decide) ?_)
          refine wp_of e17 c17_180 (rw_aload_n (pc' := 181) (v := .ref r0) rfl rfl rfl ?_)
          refine wp_of e17 c17_181 (rw_aload_n (pc' := 182) (v := .ref r1) rfl rfl rfl ?_)
          have k1332 : H1320 r0 0 = H r0 0 := (f1325 r0 0 _ g0 rfl)
          have q1333 : H1320 r0 0 = (tk : Int) := k1332.trans qtk
          have k1334 : H1320 tk 0 = H tk 0 := (f1325 tk 0 _ gtk rfl)
          have q1335 : H1320 tk 0 = (rb : Int) := k1334.trans qrb
          have k1336 : H1320 r0 3 = H r0 3 := (f1325 r0 3 _ g0 rfl)
          have h1337 : DC T H1320 r1 d := (DC_fr hW g1 f1325 rfl hDC_r1)
          refine wp_of e17 c17_182 (xc_V (pc' := 185) (r := r0) (as := [.ref r1]) (st := []) (lm_1_108) rfl rfl (Nat.le_of_ble_eq_true rfl) w1324 g0 sh_3 (by decide) rfl (by decide) (u_42 (B := B) (n := n) (q := ((xN B n q))) (d := d) w1324 g0 g1 q1333 gtk q1335 grb (by omega) p1326 h1337) (fun R1338 T1339 H1340 p1341 => ?_))
          obtain ⟨e1342, w1344, f1345, z1346, e1343, b1347, p1348⟩ := p1341
          subst e1342
          subst e1343
          rcases p1348 with ⟨a1349, a1350, a1351, a1352, a1353, a1354, a1355⟩ | ⟨a1356, a1357, a1358, a1359, a1360⟩
          · have f1361 := f1328.tr f1345 rfl
            show wp _ _ 17 185 [(2, .ref 22), (0, .ref r0), (1, .ref r1)] [vI z1346] _ H1340 _
            have u1362 := TC_k a1354
            have u1363 := DC_k a1355
            have o1364 : (xline B n q d) = (0, ((xN B n q)), (xN B n (xN B n (xN B n (xN B n ((xN B n q))))))) := by
              unfold xline xl0 xl1 xl2 xl3 xl4 xl5 xl6 xl7 xper
              repeat first | rw [xs_0 (by omega)] | rw [xs_1 (by omega)] | rw [if_pos (by omega)] | rw [if_neg (by omega)]
              first | done | rfl | assumption | (exfalso; omega) | (refine Prod.ext ?_ (Prod.ext ?_ ?_) <;> (try dsimp only) <;> omega)
            have o1364a : ((xline B n q d)).1 = 0 := by rw [o1364]
            have o1364b : ((xline B n q d)).2.1 = ((xN B n q)) := by rw [o1364]
            have o1364c : ((xline B n q d)).2.2 = (xN B n (xN B n (xN B n (xN B n ((xN B n q)))))) := by rw [o1364]
            have o1365 : xdline B n q d = ((xdtl B n ((xN B n q)) d)) := by
              unfold xdline
              repeat first | rw [xs_0 (by omega)] | rw [xs_1 (by omega)] | rw [if_pos (by omega)] | rw [if_neg (by omega)]
              first | done | rfl
            exact wp_zreturn e17 c17_185 rfl (by omega) ⟨rfl, w1344, f1361, z1346, rfl, ⟨by omega, by omega⟩, (Or.inl ⟨by omega, by omega, by omega, by omega, by rw [o1364]; exact a1354, by rw [o1365]; exact a1355⟩)⟩
          · have f1366 := f1328.tr f1345 rfl
            show wp _ _ 17 185 [(2, .ref 22), (0, .ref r0), (1, .ref r1)] [vI z1346] _ H1340 _
            have o1367 : (xline B n q d) = ((xtl B n ((xN B n q)) d).1, (xtl B n ((xN B n q)) d).2.1, (xtl B n ((xN B n q)) d).2.2) := by
              unfold xline xl0 xl1 xl2 xl3 xl4 xl5 xl6 xl7 xper
              repeat first | rw [xs_0 (by omega)] | rw [xs_1 (by omega)] | rw [if_pos (by omega)] | rw [if_neg (by omega)]
              first | done | rfl | assumption | (exfalso; omega) | (refine Prod.ext ?_ (Prod.ext ?_ ?_) <;> (try dsimp only) <;> omega)
            have o1367a : ((xline B n q d)).1 = (xtl B n ((xN B n q)) d).1 := by rw [o1367]
            have o1367b : ((xline B n q d)).2.1 = (xtl B n ((xN B n q)) d).2.1 := by rw [o1367]
            have o1367c : ((xline B n q d)).2.2 = (xtl B n ((xN B n q)) d).2.2 := by rw [o1367]
            exact wp_zreturn e17 c17_185 rfl (by omega) ⟨rfl, w1344, f1366, z1346, rfl, ⟨by omega, by omega⟩, (Or.inr ⟨by omega, by omega, by omega, by omega, by omega⟩)⟩
        · refine wp_of e17 c17_34 (rw_aload_n (pc' := 35) (v := .ref 22) rfl rfl rfl ?_)
          refine wp_of e17 c17_35 (rw_gs (pc' := 38) (k := 16) rfl rfl rfl rfl ?_)
          refine wp_of e17 c17_38 (rw_acmp_eq (p1 := 48) (p2 := 41) (a := some 22) (b := some 16) rfl rfl (by decide) rfl (fun q9 => absurd q9 (by decide)) (fun q9 => ?_))
          refine wp_of e17 c17_41 (rw_aload_n (pc' := 42) (v := .ref 22) rfl rfl rfl ?_)
          refine wp_of e17 c17_42 (rw_gs (pc' := 45) (k := 18) rfl rfl rfl rfl ?_)
          refine wp_of e17 c17_45 (rw_acmp_ne (p1 := 52) (p2 := 48) (a := some 22) (b := some 18) rfl rfl (by decide) rfl (fun q9 => ?_) (fun q9 => absurd q9 (by decide)))
          refine wp_of e17 c17_52 (rw_iconst (pc' := 53) rfl ?_)
          refine wp_of e17 c17_53 (rw_istore_n (pc' := 54) (z := 0) (L' := [(3, vI 0), (2, .ref 22), (0, .ref r0), (1, .ref r1)]) rfl rfl rfl ?_)
          refine wp_of e17 c17_54 (rw_aload_n (pc' := 55) (v := .ref r0) rfl rfl rfl ?_)
          refine wp_of e17 c17_55 (rw_iload_n (pc' := 56) (z := 0) rfl rfl ?_)
          refine wp_of e17 c17_56 (rw_if_eq (p1 := 63) (p2 := 59) (by decide) rfl ⟨by omega, by omega⟩ (fun c1368 => ?_) (fun c1368 => ?_))
          · refine wp_of e17 c17_63 (rw_iconst (pc' := 64) rfl ?_)
            refine wp_of e17 c17_64 (xc_V (pc' := 67) (r := r0) (as := [vI 5]) (st := []) (lm_1_47) rfl rfl (Nat.le_of_ble_eq_true rfl) hW g0 sh_3 (by decide) rfl (by decide) (u_20  hW g0 ⟨by omega, by omega⟩ qtk gtk) (fun R1369 T1370 H1371 p1372 => ?_))
            obtain ⟨e1373, w1375, f1376, z1377, e1374, b1378, p1379⟩ := p1372
            subst e1373
            subst e1374
            obtain ⟨a1380, a1381, a1382⟩ := p1379
            have f1383 := f0.tr f1376 rfl
            show wp _ _ 17 67 [(3, vI 0), (2, .ref 22), (0, .ref r0), (1, .ref r1)] [vI z1377] _ H1371 _
            have o1384 : (xline B n q d) = (5, q, q) := by
              unfold xline xl0 xl1 xl2 xl3 xl4 xl5 xl6 xl7 xper
              repeat first | rw [xs_0 (by omega)] | rw [xs_1 (by omega)] | rw [if_pos (by omega)] | rw [if_neg (by omega)]
              first | done | rfl | assumption | (exfalso; omega) | (refine Prod.ext ?_ (Prod.ext ?_ ?_) <;> (try dsimp only) <;> omega)
            have o1384a : ((xline B n q d)).1 = 5 := by rw [o1384]
            have o1384b : ((xline B n q d)).2.1 = q := by rw [o1384]
            have o1384c : ((xline B n q d)).2.2 = q := by rw [o1384]
            exact wp_zreturn e17 c17_67 rfl (by omega) ⟨rfl, w1375, f1383, z1377, rfl, ⟨by omega, by omega⟩, (Or.inr ⟨by omega, by omega, by omega, by omega, by omega⟩)⟩
          · exfalso
            omega
      · exfalso
        omega
    · subst c749
      show wp _ _ 17 4 [(0, .ref r0), (1, .ref r1)] [.ref 23] _ H _
      refine wp_of e17 c17_4 (rw_astore_n (pc' := 5) (v := .ref 23) (L' := [(2, .ref 23), (0, .ref r0), (1, .ref r1)]) rfl rfl rfl rfl ?_)
      refine wp_of e17 c17_5 (rw_aload_n (pc' := 6) (v := .ref 23) rfl rfl rfl ?_)
      refine wp_of e17 c17_6 (rw_ifnull_r (p1 := 16) (p2 := 9) (by decide) rfl ?_)
      refine wp_of e17 c17_9 (rw_aload_n (pc' := 10) (v := .ref 23) rfl rfl rfl ?_)
      have k1385 : H 23 1 = 6 := (hW.2 23 _ (hW.1.2.2 7 (by decide))).2.2 1 (by decide) |> fun z => by have z1 : (6 : Int) ≤ H 23 1 ∧ H 23 1 ≤ 6 := z; omega
      refine wp_of e17 c17_10 (rw_getI (pc' := 13) (n := 2) (e := _) (lf_1_58).choose_spec.1 (lf_1_58).choose_spec.2.1 (hW.sh (hW.1.2.2 7 (by decide)) rfl) (by decide) rfl rfl ?_)
      rw [k1385]
      refine wp_of e17 c17_13 (rw_if_ne (p1 := 22) (p2 := 16) (by decide) rfl ⟨by omega, by omega⟩ (fun c1386 => ?_) (fun c1386 => ?_))
      · refine wp_of e17 c17_22 (rw_aload_n (pc' := 23) (v := .ref r1) rfl rfl rfl ?_)
        refine wp_of e17 c17_23 (rw_aload_n (pc' := 24) (v := .ref 23) rfl rfl rfl ?_)
        refine wp_of e17 c17_24 (xc_V (pc' := 27) (r := r1) (as := [.ref 23]) (st := []) (lm_1_63) rfl rfl (Nat.le_of_ble_eq_true rfl) hW g1 sh_27 (by decide) rfl (by decide) (u_21_23  hW g1) (fun R1387 T1388 H1389 p1390 => ?_))
        obtain ⟨e1391, e1393, z1394, e1392, b1395, p1396⟩ := p1390
        subst e1391
        subst e1392
        subst e1393
        obtain ⟨a1397, a1398⟩ := p1396
        show wp _ _ 17 27 [(2, .ref 23), (0, .ref r0), (1, .ref r1)] [vI z1394] _ H _
        refine wp_of e17 c17_27 (rw_aload_n (pc' := 28) (v := .ref 23) rfl rfl rfl ?_)
        have k1399 : H 23 1 = 6 := (hW.2 23 _ (hW.1.2.2 7 (by decide))).2.2 1 (by decide) |> fun z => by have z1 : (6 : Int) ≤ H 23 1 ∧ H 23 1 ≤ 6 := z; omega
        refine wp_of e17 c17_28 (rw_getI (pc' := 31) (n := 2) (e := _) (lf_1_58).choose_spec.1 (lf_1_58).choose_spec.2.1 (hW.sh (hW.1.2.2 7 (by decide)) rfl) (by decide) rfl rfl ?_)
        rw [k1399]
        refine wp_of e17 c17_31 (rw_icmp_lt (p1 := 68) (p2 := 34) (by decide) rfl ⟨by omega, by omega⟩ ⟨by omega, by omega⟩ (fun c1400 => ?_) (fun c1400 => ?_))
        · refine wp_of e17 c17_68 (rw_aload_n (pc' := 69) (v := .ref r0) rfl rfl rfl ?_)
          refine wp_of e17 c17_69 (xg_K (pc' := 72) lf_1_12 hW g0 sh_3 (by decide) (by decide) rfl qtk rfl ?_)
          have h1401 : TP T H rb B := TC_tp hTC_tk qrb
          refine wp_of e17 c17_72 (xc_V (pc' := 75) (r := tk) (as := []) (st := []) (lm_1_74) rfl rfl (Nat.le_of_ble_eq_true rfl) hW gtk sh_4 (by decide) rfl (by decide) (u_16 (B := B) (n := n) (a := (xE B n q)) (q := (xN B n q)) hW gtk qrb grb (by omega) (by omega) (by omega) (rfl) h1401) (fun R1402 T1403 H1404 p1405 => ?_))
          obtain ⟨e1406, w1408, f1409, e1407, p1410⟩ := p1405
          subst e1406
          subst e1407
          have f1412 := f0.tr f1409 rfl
          show wp _ _ 17 75 [(2, .ref 23), (0, .ref r0), (1, .ref r1)] [] _ H1404 _
          have u1413 := TC_k p1410
          refine wp_of e17 c17_75 (rw_gs (pc' := 78) (k := 2) rfl rfl rfl rfl ?_)
          refine wp_of e17 c17_78 (rw_aload_n (pc' := 79) (v := .ref 23) rfl rfl rfl ?_)
          refine wp_of e17 c17_79 (rw_ord (pc' := 82) rfl rfl rfl (by decide) (Nat.le_of_ble_eq_true rfl) rfl ?_)
          show wp _ _ 17 82 [(2, .ref 23), (0, .ref r0), (1, .ref r1)] [vI 7, .ref 2] _ H1404 _
          have k1414 : H1404 2 (7 : Int).toNat = 8 := (w1408.2 2 _ w1408.1.2.1).2.2 7 (by decide) |> fun z => by have z1 : (8 : Int) ≤ H1404 2 7 ∧ H1404 2 7 ≤ 8 := z; exact Int.le_antisymm z1.2 z1.1
          refine wp_of e17 c17_82 (rw_iaload (pc' := 83) (n := 11) (w1408.sh w1408.1.2.1 rfl) (by decide) (by decide) (by decide) rfl rfl ?_)
          rw [k1414]
          refine wp_of e17 c17_83 (rw_tsw (p1 := 186) ⟨by omega, by omega⟩ (by decide) ?_)
          refine wp_of e17 c17_186 (rw_aload_n (pc' := 187) (v := .ref r0) rfl rfl rfl ?_)
          refine wp_of e17 c17_187 (rw_aload_n (pc' := 188) (v := .ref r1) rfl rfl rfl ?_)
          have k1416 : H1404 r0 0 = H r0 0 := (f1409 r0 0 _ g0 rfl)
          have q1417 : H1404 r0 0 = (tk : Int) := k1416.trans qtk
          have k1418 : H1404 tk 0 = H tk 0 := (f1409 tk 0 _ gtk rfl)
          have q1419 : H1404 tk 0 = (rb : Int) := k1418.trans qrb
          have k1420 : H1404 r0 3 = H r0 3 := (f1409 r0 3 _ g0 rfl)
          have h1421 : DC T H1404 r1 d := (DC_fr hW g1 f1409 rfl hDC_r1)
          refine wp_of e17 c17_188 (xc_V (pc' := 191) (r := r0) (as := [.ref r1]) (st := []) (lm_1_111) rfl rfl (Nat.le_of_ble_eq_true rfl) w1408 g0 sh_3 (by decide) rfl (by decide) (u_43 (B := B) (n := n) (q := ((xN B n q))) (d := d) w1408 g0 g1 q1417 gtk q1419 grb (by omega) p1410 h1421) (fun R1422 T1423 H1424 p1425 => ?_))
          obtain ⟨e1426, w1428, f1429, z1430, e1427, b1431, p1432⟩ := p1425
          subst e1426
          subst e1427
          rcases p1432 with ⟨a1433, a1434, a1435, a1436, a1437, a1438, a1439⟩ | ⟨a1440, a1441, a1442, a1443, a1444⟩
          · have f1445 := f1412.tr f1429 rfl
            show wp _ _ 17 191 [(2, .ref 23), (0, .ref r0), (1, .ref r1)] [vI z1430] _ H1424 _
            have u1446 := TC_k a1438
            have u1447 := DC_k a1439
            have o1448 : (xline B n q d) = (0, ((xN B n q)), (xN B n (xN B n (xN B n (xN B n ((xN B n q))))))) := by
              unfold xline xl0 xl1 xl2 xl3 xl4 xl5 xl6 xl7 xper
              repeat first | rw [xs_0 (by omega)] | rw [xs_1 (by omega)] | rw [if_pos (by omega)] | rw [if_neg (by omega)]
              first | done | rfl | assumption | (exfalso; omega) | (refine Prod.ext ?_ (Prod.ext ?_ ?_) <;> (try dsimp only) <;> omega)
            have o1448a : ((xline B n q d)).1 = 0 := by rw [o1448]
            have o1448b : ((xline B n q d)).2.1 = ((xN B n q)) := by rw [o1448]
            have o1448c : ((xline B n q d)).2.2 = (xN B n (xN B n (xN B n (xN B n ((xN B n q)))))) := by rw [o1448]
            have o1449 : xdline B n q d = ((xdof B n ((xN B n q)) d)) := by
              unfold xdline
              repeat first | rw [xs_0 (by omega)] | rw [xs_1 (by omega)] | rw [if_pos (by omega)] | rw [if_neg (by omega)]
              first | done | rfl
            exact wp_zreturn e17 c17_191 rfl (by omega) ⟨rfl, w1428, f1445, z1430, rfl, ⟨by omega, by omega⟩, (Or.inl ⟨by omega, by omega, by omega, by omega, by rw [o1448]; exact a1438, by rw [o1449]; exact a1439⟩)⟩
          · have f1450 := f1412.tr f1429 rfl
            show wp _ _ 17 191 [(2, .ref 23), (0, .ref r0), (1, .ref r1)] [vI z1430] _ H1424 _
            have o1451 : (xline B n q d) = ((xtl B n ((xN B n q)) d).1, (xtl B n ((xN B n q)) d).2.1, (xtl B n ((xN B n q)) d).2.2) := by
              unfold xline xl0 xl1 xl2 xl3 xl4 xl5 xl6 xl7 xper
              repeat first | rw [xs_0 (by omega)] | rw [xs_1 (by omega)] | rw [if_pos (by omega)] | rw [if_neg (by omega)]
              first | done | rfl | assumption | (exfalso; omega) | (refine Prod.ext ?_ (Prod.ext ?_ ?_) <;> (try dsimp only) <;> omega)
            have o1451a : ((xline B n q d)).1 = (xtl B n ((xN B n q)) d).1 := by rw [o1451]
            have o1451b : ((xline B n q d)).2.1 = (xtl B n ((xN B n q)) d).2.1 := by rw [o1451]
            have o1451c : ((xline B n q d)).2.2 = (xtl B n ((xN B n q)) d).2.2 := by rw [o1451]
            exact wp_zreturn e17 c17_191 rfl (by omega) ⟨rfl, w1428, f1450, z1430, rfl, ⟨by omega, by omega⟩, (Or.inr ⟨by omega, by omega, by omega, by omega, by omega⟩)⟩
        · refine wp_of e17 c17_34 (rw_aload_n (pc' := 35) (v := .ref 23) rfl rfl rfl ?_)
          refine wp_of e17 c17_35 (rw_gs (pc' := 38) (k := 16) rfl rfl rfl rfl ?_)
          refine wp_of e17 c17_38 (rw_acmp_eq (p1 := 48) (p2 := 41) (a := some 23) (b := some 16) rfl rfl (by decide) rfl (fun q9 => absurd q9 (by decide)) (fun q9 => ?_))
          refine wp_of e17 c17_41 (rw_aload_n (pc' := 42) (v := .ref 23) rfl rfl rfl ?_)
          refine wp_of e17 c17_42 (rw_gs (pc' := 45) (k := 18) rfl rfl rfl rfl ?_)
          refine wp_of e17 c17_45 (rw_acmp_ne (p1 := 52) (p2 := 48) (a := some 23) (b := some 18) rfl rfl (by decide) rfl (fun q9 => ?_) (fun q9 => absurd q9 (by decide)))
          refine wp_of e17 c17_52 (rw_iconst (pc' := 53) rfl ?_)
          refine wp_of e17 c17_53 (rw_istore_n (pc' := 54) (z := 0) (L' := [(3, vI 0), (2, .ref 23), (0, .ref r0), (1, .ref r1)]) rfl rfl rfl ?_)
          refine wp_of e17 c17_54 (rw_aload_n (pc' := 55) (v := .ref r0) rfl rfl rfl ?_)
          refine wp_of e17 c17_55 (rw_iload_n (pc' := 56) (z := 0) rfl rfl ?_)
          refine wp_of e17 c17_56 (rw_if_eq (p1 := 63) (p2 := 59) (by decide) rfl ⟨by omega, by omega⟩ (fun c1452 => ?_) (fun c1452 => ?_))
          · refine wp_of e17 c17_63 (rw_iconst (pc' := 64) rfl ?_)
            refine wp_of e17 c17_64 (xc_V (pc' := 67) (r := r0) (as := [vI 5]) (st := []) (lm_1_47) rfl rfl (Nat.le_of_ble_eq_true rfl) hW g0 sh_3 (by decide) rfl (by decide) (u_20  hW g0 ⟨by omega, by omega⟩ qtk gtk) (fun R1453 T1454 H1455 p1456 => ?_))
            obtain ⟨e1457, w1459, f1460, z1461, e1458, b1462, p1463⟩ := p1456
            subst e1457
            subst e1458
            obtain ⟨a1464, a1465, a1466⟩ := p1463
            have f1467 := f0.tr f1460 rfl
            show wp _ _ 17 67 [(3, vI 0), (2, .ref 23), (0, .ref r0), (1, .ref r1)] [vI z1461] _ H1455 _
            have o1468 : (xline B n q d) = (5, q, q) := by
              unfold xline xl0 xl1 xl2 xl3 xl4 xl5 xl6 xl7 xper
              repeat first | rw [xs_0 (by omega)] | rw [xs_1 (by omega)] | rw [if_pos (by omega)] | rw [if_neg (by omega)]
              first | done | rfl | assumption | (exfalso; omega) | (refine Prod.ext ?_ (Prod.ext ?_ ?_) <;> (try dsimp only) <;> omega)
            have o1468a : ((xline B n q d)).1 = 5 := by rw [o1468]
            have o1468b : ((xline B n q d)).2.1 = q := by rw [o1468]
            have o1468c : ((xline B n q d)).2.2 = q := by rw [o1468]
            exact wp_zreturn e17 c17_67 rfl (by omega) ⟨rfl, w1459, f1467, z1461, rfl, ⟨by omega, by omega⟩, (Or.inr ⟨by omega, by omega, by omega, by omega, by omega⟩)⟩
          · exfalso
            omega
      · exfalso
        omega
    · subst c749
      show wp _ _ 17 4 [(0, .ref r0), (1, .ref r1)] [.ref 24] _ H _
      refine wp_of e17 c17_4 (rw_astore_n (pc' := 5) (v := .ref 24) (L' := [(2, .ref 24), (0, .ref r0), (1, .ref r1)]) rfl rfl rfl rfl ?_)
      refine wp_of e17 c17_5 (rw_aload_n (pc' := 6) (v := .ref 24) rfl rfl rfl ?_)
      refine wp_of e17 c17_6 (rw_ifnull_r (p1 := 16) (p2 := 9) (by decide) rfl ?_)
      refine wp_of e17 c17_9 (rw_aload_n (pc' := 10) (v := .ref 24) rfl rfl rfl ?_)
      have k1469 : H 24 1 = 0 := (hW.2 24 _ (hW.1.2.2 8 (by decide))).2.2 1 (by decide) |> fun z => by have z1 : (0 : Int) ≤ H 24 1 ∧ H 24 1 ≤ 0 := z; omega
      refine wp_of e17 c17_10 (rw_getI (pc' := 13) (n := 2) (e := _) (lf_1_58).choose_spec.1 (lf_1_58).choose_spec.2.1 (hW.sh (hW.1.2.2 8 (by decide)) rfl) (by decide) rfl rfl ?_)
      rw [k1469]
      refine wp_of e17 c17_13 (rw_if_ne (p1 := 22) (p2 := 16) (by decide) rfl ⟨by omega, by omega⟩ (fun c1470 => ?_) (fun c1470 => ?_))
      · exfalso
        omega
      · refine wp_of e17 c17_16 (rw_aload_n (pc' := 17) (v := .ref r0) rfl rfl rfl ?_)
        refine wp_of e17 c17_17 (rw_iconst (pc' := 18) rfl ?_)
        refine wp_of e17 c17_18 (xc_V (pc' := 21) (r := r0) (as := [vI 1]) (st := []) (lm_1_47) rfl rfl (Nat.le_of_ble_eq_true rfl) hW g0 sh_3 (by decide) rfl (by decide) (u_20  hW g0 ⟨by omega, by omega⟩ qtk gtk) (fun R1471 T1472 H1473 p1474 => ?_))
        obtain ⟨e1475, w1477, f1478, z1479, e1476, b1480, p1481⟩ := p1474
        subst e1475
        subst e1476
        obtain ⟨a1482, a1483, a1484⟩ := p1481
        have f1485 := f0.tr f1478 rfl
        show wp _ _ 17 21 [(2, .ref 24), (0, .ref r0), (1, .ref r1)] [vI z1479] _ H1473 _
        have o1486 : (xline B n q d) = (1, q, q) := by
          unfold xline xl0 xl1 xl2 xl3 xl4 xl5 xl6 xl7 xper
          repeat first | rw [xs_0 (by omega)] | rw [xs_1 (by omega)] | rw [if_pos (by omega)] | rw [if_neg (by omega)]
          first | done | rfl | assumption | (exfalso; omega) | (refine Prod.ext ?_ (Prod.ext ?_ ?_) <;> (try dsimp only) <;> omega)
        have o1486a : ((xline B n q d)).1 = 1 := by rw [o1486]
        have o1486b : ((xline B n q d)).2.1 = q := by rw [o1486]
        have o1486c : ((xline B n q d)).2.2 = q := by rw [o1486]
        exact wp_zreturn e17 c17_21 rfl (by omega) ⟨rfl, w1477, f1485, z1479, rfl, ⟨by omega, by omega⟩, (Or.inr ⟨by omega, by omega, by omega, by omega, by omega⟩)⟩
    · subst c749
      show wp _ _ 17 4 [(0, .ref r0), (1, .ref r1)] [.ref 25] _ H _
      refine wp_of e17 c17_4 (rw_astore_n (pc' := 5) (v := .ref 25) (L' := [(2, .ref 25), (0, .ref r0), (1, .ref r1)]) rfl rfl rfl rfl ?_)
      refine wp_of e17 c17_5 (rw_aload_n (pc' := 6) (v := .ref 25) rfl rfl rfl ?_)
      refine wp_of e17 c17_6 (rw_ifnull_r (p1 := 16) (p2 := 9) (by decide) rfl ?_)
      refine wp_of e17 c17_9 (rw_aload_n (pc' := 10) (v := .ref 25) rfl rfl rfl ?_)
      have k1487 : H 25 1 = 0 := (hW.2 25 _ (hW.1.2.2 9 (by decide))).2.2 1 (by decide) |> fun z => by have z1 : (0 : Int) ≤ H 25 1 ∧ H 25 1 ≤ 0 := z; omega
      refine wp_of e17 c17_10 (rw_getI (pc' := 13) (n := 2) (e := _) (lf_1_58).choose_spec.1 (lf_1_58).choose_spec.2.1 (hW.sh (hW.1.2.2 9 (by decide)) rfl) (by decide) rfl rfl ?_)
      rw [k1487]
      refine wp_of e17 c17_13 (rw_if_ne (p1 := 22) (p2 := 16) (by decide) rfl ⟨by omega, by omega⟩ (fun c1488 => ?_) (fun c1488 => ?_))
      · exfalso
        omega
      · refine wp_of e17 c17_16 (rw_aload_n (pc' := 17) (v := .ref r0) rfl rfl rfl ?_)
        refine wp_of e17 c17_17 (rw_iconst (pc' := 18) rfl ?_)
        refine wp_of e17 c17_18 (xc_V (pc' := 21) (r := r0) (as := [vI 1]) (st := []) (lm_1_47) rfl rfl (Nat.le_of_ble_eq_true rfl) hW g0 sh_3 (by decide) rfl (by decide) (u_20  hW g0 ⟨by omega, by omega⟩ qtk gtk) (fun R1489 T1490 H1491 p1492 => ?_))
        obtain ⟨e1493, w1495, f1496, z1497, e1494, b1498, p1499⟩ := p1492
        subst e1493
        subst e1494
        obtain ⟨a1500, a1501, a1502⟩ := p1499
        have f1503 := f0.tr f1496 rfl
        show wp _ _ 17 21 [(2, .ref 25), (0, .ref r0), (1, .ref r1)] [vI z1497] _ H1491 _
        have o1504 : (xline B n q d) = (1, q, q) := by
          unfold xline xl0 xl1 xl2 xl3 xl4 xl5 xl6 xl7 xper
          repeat first | rw [xs_0 (by omega)] | rw [xs_1 (by omega)] | rw [if_pos (by omega)] | rw [if_neg (by omega)]
          first | done | rfl | assumption | (exfalso; omega) | (refine Prod.ext ?_ (Prod.ext ?_ ?_) <;> (try dsimp only) <;> omega)
        have o1504a : ((xline B n q d)).1 = 1 := by rw [o1504]
        have o1504b : ((xline B n q d)).2.1 = q := by rw [o1504]
        have o1504c : ((xline B n q d)).2.2 = q := by rw [o1504]
        exact wp_zreturn e17 c17_21 rfl (by omega) ⟨rfl, w1495, f1503, z1497, rfl, ⟨by omega, by omega⟩, (Or.inr ⟨by omega, by omega, by omega, by omega, by omega⟩)⟩
    · subst c749
      show wp _ _ 17 4 [(0, .ref r0), (1, .ref r1)] [.ref 26] _ H _
      refine wp_of e17 c17_4 (rw_astore_n (pc' := 5) (v := .ref 26) (L' := [(2, .ref 26), (0, .ref r0), (1, .ref r1)]) rfl rfl rfl rfl ?_)
      refine wp_of e17 c17_5 (rw_aload_n (pc' := 6) (v := .ref 26) rfl rfl rfl ?_)
      refine wp_of e17 c17_6 (rw_ifnull_r (p1 := 16) (p2 := 9) (by decide) rfl ?_)
      refine wp_of e17 c17_9 (rw_aload_n (pc' := 10) (v := .ref 26) rfl rfl rfl ?_)
      have k1505 : H 26 1 = 0 := (hW.2 26 _ (hW.1.2.2 10 (by decide))).2.2 1 (by decide) |> fun z => by have z1 : (0 : Int) ≤ H 26 1 ∧ H 26 1 ≤ 0 := z; omega
      refine wp_of e17 c17_10 (rw_getI (pc' := 13) (n := 2) (e := _) (lf_1_58).choose_spec.1 (lf_1_58).choose_spec.2.1 (hW.sh (hW.1.2.2 10 (by decide)) rfl) (by decide) rfl rfl ?_)
      rw [k1505]
      refine wp_of e17 c17_13 (rw_if_ne (p1 := 22) (p2 := 16) (by decide) rfl ⟨by omega, by omega⟩ (fun c1506 => ?_) (fun c1506 => ?_))
      · exfalso
        omega
      · refine wp_of e17 c17_16 (rw_aload_n (pc' := 17) (v := .ref r0) rfl rfl rfl ?_)
        refine wp_of e17 c17_17 (rw_iconst (pc' := 18) rfl ?_)
        refine wp_of e17 c17_18 (xc_V (pc' := 21) (r := r0) (as := [vI 1]) (st := []) (lm_1_47) rfl rfl (Nat.le_of_ble_eq_true rfl) hW g0 sh_3 (by decide) rfl (by decide) (u_20  hW g0 ⟨by omega, by omega⟩ qtk gtk) (fun R1507 T1508 H1509 p1510 => ?_))
        obtain ⟨e1511, w1513, f1514, z1515, e1512, b1516, p1517⟩ := p1510
        subst e1511
        subst e1512
        obtain ⟨a1518, a1519, a1520⟩ := p1517
        have f1521 := f0.tr f1514 rfl
        show wp _ _ 17 21 [(2, .ref 26), (0, .ref r0), (1, .ref r1)] [vI z1515] _ H1509 _
        have o1522 : (xline B n q d) = (1, q, q) := by
          unfold xline xl0 xl1 xl2 xl3 xl4 xl5 xl6 xl7 xper
          repeat first | rw [xs_0 (by omega)] | rw [xs_1 (by omega)] | rw [if_pos (by omega)] | rw [if_neg (by omega)]
          first | done | rfl | assumption | (exfalso; omega) | (refine Prod.ext ?_ (Prod.ext ?_ ?_) <;> (try dsimp only) <;> omega)
        have o1522a : ((xline B n q d)).1 = 1 := by rw [o1522]
        have o1522b : ((xline B n q d)).2.1 = q := by rw [o1522]
        have o1522c : ((xline B n q d)).2.2 = q := by rw [o1522]
        exact wp_zreturn e17 c17_21 rfl (by omega) ⟨rfl, w1513, f1521, z1515, rfl, ⟨by omega, by omega⟩, (Or.inr ⟨by omega, by omega, by omega, by omega, by omega⟩)⟩
/-! StrikeAwake$Reader.reads([BILStrikeAwake$Parish;)Z  -/
abbrev uq_13 (r0 : Nat) (r1 : Nat) (a2 : Int) (r3 : Nat) (tk : Nat) (B : Nat → Int) (T : wq_T) (H : wq_H) : Option Value → wq_T → wq_H → Prop := fun r T' H' => T = T' ∧ WT T H' ∧ wfr [(27, 7), (27, 8), (27, 9), (27, 10), (27, 11), (27, 12), (27, 13), (27, 14), (27, 15), (27, 16), (27, 17), (27, 18), (35, 6), (35, 7), (35, 8), (35, 9), (35, 10), (35, 11), (35, 12), (35, 13), (35, 14), (35, 15), (35, 16), (35, 17), (3, 1), (3, 2), (3, 3), (3, 4), (4, 0), (4, 1), (4, 2), (4, 3), (4, 4), (4, 5), (4, 6), (31, 999), (34, 999), (29, 999), (30, 999), (33, 999), (32, 999)] T H H' ∧ ∃ z : Int, some (vI z) = r ∧ (0 ≤ z ∧ z ≤ 1) ∧ (((z = 1) ∧ (((xparse B a2).1).1 = 0) ∧ (H' r0 3 = 0) ∧ DC T H' r3 ((xparse B a2).2)) ∨ ((z = 0) ∧ (((xparse B a2).1).1 ≠ 0) ∧ (H' r0 3 = ((xparse B a2).1).1) ∧ (H' r0 4 = ((xparse B a2).1).2.1)))
set_option maxHeartbeats 4000000 in
theorem u_13 {kt : Nat → Option mc_E} {T : wq_T} {H : wq_H} {r0 : Nat} {r1 : Nat} {a2 : Int} {r3 : Nat} {tk : Nat} {B : Nat → Int} (hW : WT T H) (g0 : T.2.2.2 r0 = some 3) (g1 : T.2.2.2 r1 = some 2) (i2 : 0 ≤ a2 ∧ a2 ≤ 900) (g3 : T.2.2.2 r3 = some 27) (qtk : H r0 0 = (tk : Int)) (gtk : T.2.2.2 tk = some 4) (hTP_r1 : TP T H r1 B) (hDD_r3 : DD T H r3 ) : wpc kt 7 13 [.ref r0, .ref r1, vI a2, .ref r3] T H (uq_13 r0 r1 a2 r3 tk B T H) := by
  refine wp_enter e13 (Nat.le_of_ble_eq_true rfl) rfl ?_
  have f0 : wfr [(27, 7), (27, 8), (27, 9), (27, 10), (27, 11), (27, 12), (27, 13), (27, 14), (27, 15), (27, 16), (27, 17), (27, 18), (35, 6), (35, 7), (35, 8), (35, 9), (35, 10), (35, 11), (35, 12), (35, 13), (35, 14), (35, 15), (35, 16), (35, 17), (3, 1), (3, 2), (3, 3), (3, 4), (4, 0), (4, 1), (4, 2), (4, 3), (4, 4), (4, 5), (4, 6), (31, 999), (34, 999), (29, 999), (30, 999), (33, 999), (32, 999)] T H H := wfr.rf
  show wp _ _ 13 0 [(0, .ref r0), (1, .ref r1), (2, vI a2), (3, .ref r3)] [] _ H _
  refine wp_of e13 c13_0 (rw_aload_n (pc' := 1) (v := .ref r0) rfl rfl rfl ?_)
  refine wp_of e13 c13_1 (rw_iconst (pc' := 2) rfl ?_)
  refine wp_of e13 c13_2 (xp_I (pc' := 5) lf_1_18 hW g0 sh_3 (by decide) (by decide) ty_3_3 rfl rfl (by omega) (by omega) ⟨by omega, by omega⟩ rfl (fun H660 e661 w662 => ?_))
  have f663 := f0.put' e661 g0 rfl
  have k664 : H660 r0 3 = 0 := wq_u_s e661
  refine wp_of e13 c13_5 (rw_aload_n (pc' := 6) (v := .ref r0) rfl rfl rfl ?_)
  refine wp_of e13 c13_6 (rw_iconst (pc' := 7) rfl ?_)
  refine wp_of e13 c13_7 (xp_I (pc' := 10) lf_1_22 w662 g0 sh_3 (by decide) (by decide) ty_3_4 rfl rfl (by omega) (by omega) ⟨by omega, by omega⟩ rfl (fun H665 e666 w667 => ?_))
  have f668 := f663.put' e666 g0 rfl
  have k669 : H665 r0 4 = -1 := wq_u_s e666
  refine wp_of e13 c13_10 (rw_aload_n (pc' := 11) (v := .ref r3) rfl rfl rfl ?_)
  refine wp_of e13 c13_11 (xc_V (pc' := 14) (r := r3) (as := []) (st := []) (lm_1_25) rfl rfl (Nat.le_of_ble_eq_true rfl) w667 g3 sh_27 (by decide) rfl (by decide) (u_14  w667 g3) (fun R670 T671 H672 p673 => ?_))
  obtain ⟨e674, w676, f677, e675, p678⟩ := p673
  subst e674
  subst e675
  have f680 := f668.tr f677 rfl
  show wp _ _ 13 14 [(0, .ref r0), (1, .ref r1), (2, vI a2), (3, .ref r3)] [] _ H672 _
  have u681 := DC_k p678
  refine wp_of e13 c13_14 (rw_aload_n (pc' := 15) (v := .ref r0) rfl rfl rfl ?_)
  have k682 : H672 r0 0 = H r0 0 := ((f677 r0 0 _ g0 rfl).trans ((wq_u_j e666 rfl).trans (wq_u_j e661 rfl)))
  have q683 : H672 r0 0 = (tk : Int) := k682.trans qtk
  refine wp_of e13 c13_15 (xg_K (pc' := 18) lf_1_12 w676 g0 sh_3 (by decide) (by decide) rfl q683 rfl ?_)
  refine wp_of e13 c13_18 (rw_aload_n (pc' := 19) (v := .ref r1) rfl rfl rfl ?_)
  refine wp_of e13 c13_19 (rw_iload_n (pc' := 20) (z := a2) rfl rfl ?_)
  have h684 : TP T H672 r1 B := (TP_fr w667 g1 f677 rfl (TP_fr w662 g1 ((wfr.rf (l := [(3, 4)])).put' e666 g0 rfl) rfl (TP_fr hW g1 ((wfr.rf (l := [(3, 3)])).put' e661 g0 rfl) rfl hTP_r1)))
  refine wp_of e13 c13_20 (xc_V (pc' := 23) (r := tk) (as := [.ref r1, vI a2]) (st := []) (lm_1_30) rfl rfl (Nat.le_of_ble_eq_true rfl) w676 gtk sh_4 (by decide) rfl (by decide) (u_15 (B := B) w676 gtk g1 ⟨by omega, by omega⟩ h684) (fun R685 T686 H687 p688 => ?_))
  obtain ⟨e689, w691, f692, e690, p693⟩ := p688
  subst e689
  subst e690
  obtain ⟨a694, a695⟩ := p693
  have f696 := f680.tr f692 rfl
  show wp _ _ 13 23 [(0, .ref r0), (1, .ref r1), (2, vI a2), (3, .ref r3)] [] _ H687 _
  have u697 := TC_k a695
  refine wp_of e13 c13_23 (rw_iconst (pc' := 24) rfl ?_)
  refine wp_of e13 c13_24 (rw_istore (pc' := 26) (z := 0) (L' := [(4, vI 0), (0, .ref r0), (1, .ref r1), (2, vI a2), (3, .ref r3)]) rfl rfl rfl ?_)
  have k1210 : H687 r0 3 = H660 r0 3 := ((f692 r0 3 _ g0 rfl).trans ((f677 r0 3 _ g0 rfl).trans (wq_u_j e666 rfl)))
  have lp1203 : ∀ (n1204 : Nat) (v1206 : Int) (H1207 : wq_H) (q1208 : Int) (d1209 : xD), WT T H1207 → wfr [(27, 7), (27, 8), (27, 9), (27, 10), (27, 11), (27, 12), (27, 13), (27, 14), (27, 15), (27, 16), (35, 6), (35, 7), (35, 8), (35, 9), (35, 10), (35, 11), (35, 12), (35, 13), (35, 14), (35, 15), (35, 16), (35, 17), (3, 1), (3, 2), (3, 3), (3, 4), (4, 2), (4, 3), (4, 4), (4, 5), (4, 6), (31, 999), (34, 999), (29, 999), (30, 999), (33, 999), (32, 999)] T H687 H1207 → (0 ≤ v1206 ∧ v1206 ≤ 901) → (H1207 r0 3 = 0) → TC T H1207 tk B a2 q1208 → DC T H1207 r3 d1209 → (v1206 ≤ q1208) → (xpf B a2 (902 - v1206).toNat q1208 d1209 = xparse B a2) → (901 - v1206).toNat = n1204 → wp kt 6 13 26 [(4, vI v1206), (0, .ref r0), (3, .ref r3)] [] T H1207 (uq_13 r0 r1 a2 r3 tk B T H) := by
    intro n1204
    induction n1204 using Nat.strongRecOn with
    | _ n1204 ih1205 =>
      intro v1206 H1207 q1208 d1209 w1211 f1212 b1213 x1214 h1216 h1217 x1218 x1219 m1215
      have f1220 := f696.tr f1212 rfl
      have u1221 := TC_k h1216
      have u1222 := DC_k h1217
      refine wp_of e13 c13_26 (rw_iload (pc' := 28) (z := v1206) rfl rfl ?_)
      refine wp_of e13 c13_28 (rw_sipush (pc' := 31) (z := 900) rfl (by decide) ?_)
      refine wp_of e13 c13_31 (rw_icmp_gt (p1 := 99) (p2 := 34) (by decide) rfl ⟨by omega, by omega⟩ ⟨by omega, by omega⟩ (fun c1223 => ?_) (fun c1223 => ?_))
      · exfalso
        omega
      · refine wp_of e13 c13_34 (rw_aload_n (pc' := 35) (v := .ref r0) rfl rfl rfl ?_)
        refine wp_of e13 c13_35 (rw_aload_n (pc' := 36) (v := .ref r3) rfl rfl rfl ?_)
        have k1224 : H1207 r0 0 = H672 r0 0 := ((f1212 r0 0 _ g0 rfl).trans (f692 r0 0 _ g0 rfl))
        have q1225 : H1207 r0 0 = (tk : Int) := k1224.trans q683
        have k1226 : H1207 tk 0 = H687 tk 0 := (f1212 tk 0 _ gtk rfl)
        have q1227 : H1207 tk 0 = (r1 : Int) := k1226.trans a694
        have h1228 : DD T H1207 r3  := (DD_fr w691 g3 f1212 rfl (DD_fr w676 g3 f692 rfl (DD_fr w667 g3 f677 rfl (DD_fr w662 g3 ((wfr.rf (l := [(3, 4)])).put' e666 g0 rfl) rfl (DD_fr hW g3 ((wfr.rf (l := [(3, 3)])).put' e661 g0 rfl) rfl hDD_r3)))))
        refine wp_of e13 c13_36 (xc_V (pc' := 39) (r := r0) (as := [.ref r3]) (st := []) (lm_1_34) rfl rfl (Nat.le_of_ble_eq_true rfl) w1211 g0 sh_3 (by decide) rfl (by decide) (u_17 (B := B) (n := a2) (q := q1208) (d := d1209) w1211 g0 g3 q1225 gtk q1227 g1 h1216 h1217 h1228) (fun R1229 T1230 H1231 p1232 => ?_))
        obtain ⟨e1233, w1235, f1236, z1237, e1234, b1238, p1239⟩ := p1232
        subst e1233
        subst e1234
        rcases p1239 with ⟨a1240, a1241, a1242, a1243, a1244, a1245⟩ | ⟨a1246, a1247, a1248, a1249, a1250⟩
        · have f1251 := f1220.tr f1236 rfl
          have f1252 := f1212.tr f1236 rfl
          show wp _ _ 13 39 [(4, vI v1206), (0, .ref r0), (3, .ref r3)] [vI z1237] _ H1231 _
          have u1253 := TC_k a1244
          have u1254 := DC_k a1245
          refine wp_of e13 c13_39 (rw_if_ne (p1 := 44) (p2 := 42) (by decide) rfl ⟨by omega, by omega⟩ (fun c1255 => ?_) (fun c1255 => ?_))
          · refine wp_of e13 c13_44 (rw_aload_n (pc' := 45) (v := .ref r0) rfl rfl rfl ?_)
            have k1256 : H1231 r0 0 = H1207 r0 0 := (f1236 r0 0 _ g0 rfl)
            have q1257 : H1231 r0 0 = (tk : Int) := k1256.trans q1225
            refine wp_of e13 c13_45 (xg_K (pc' := 48) lf_1_12 w1235 g0 sh_3 (by decide) (by decide) rfl q1257 rfl ?_)
            refine wp_of e13 c13_48 (xg_I (pc' := 51) lf_1_38 w1235 gtk sh_4 (by decide) (by decide) ty_4_3 rfl rfl (fun b1258 b1259 => ?_))
            refine wp_of e13 c13_51 (rw_if_ne (p1 := 83) (p2 := 54) (by decide) rfl ⟨by omega, by omega⟩ (fun c1260 => ?_) (fun c1260 => ?_))
            · have _e := TC_e a1244
              refine wp_of e13 c13_83 (rw_aload_n (pc' := 84) (v := .ref r0) rfl rfl rfl ?_)
              refine wp_of e13 c13_84 (rw_iconst (pc' := 85) rfl ?_)
              have k1261 : H1231 tk 0 = H1207 tk 0 := (f1236 tk 0 _ gtk rfl)
              have q1262 : H1231 tk 0 = (r1 : Int) := k1261.trans q1227
              refine wp_of e13 c13_85 (xc_V (pc' := 88) (r := r0) (as := [vI 3]) (st := []) (lm_1_51) rfl rfl (Nat.le_of_ble_eq_true rfl) w1235 g0 sh_3 (by decide) rfl (by decide) (u_35 (B := B) (n := a2) (q := ((xline B a2 q1208 d1209).2.2)) w1235 g0 ⟨by omega, by omega⟩ q1257 gtk q1262 g1 a1244) (fun R1263 T1264 H1265 p1266 => ?_))
              obtain ⟨e1267, w1269, f1270, z1271, e1268, b1272, p1273⟩ := p1266
              subst e1267
              subst e1268
              rcases p1273 with ⟨a1274, a1275, a1276, a1277, a1278⟩ | ⟨a1279, a1280, a1281, a1282, a1283⟩
              · have f1284 := f1251.tr f1270 rfl
                have f1285 := f1252.tr f1270 rfl
                show wp _ _ 13 88 [(4, vI v1206), (0, .ref r0), (3, .ref r3)] [vI z1271] _ H1265 _
                have u1286 := TC_k a1278
                refine wp_of e13 c13_88 (rw_if_ne (p1 := 93) (p2 := 91) (by decide) rfl ⟨by omega, by omega⟩ (fun c1287 => ?_) (fun c1287 => ?_))
                · refine wp_of e13 c13_93 (rw_iinc (pc' := 96) (z := v1206) (L' := [(4, vI (v1206 + 1)), (0, .ref r0), (3, .ref r3)]) rfl rfl rfl rfl ?_)
                  refine wp_of e13 c13_96 (rw_goto (p1 := 26) (by decide) ?_)
                  have h1288 : DC T H1265 r3 (xdline B a2 q1208 d1209) := (DC_fr w1235 g3 f1270 rfl a1245)
                  exact wp_lc (ks := [4, 0, 3]) (wl_c rfl (wl_c rfl (wl_c rfl wl_n))) rfl (by decide) (ih1205 _ (by omega) (v1206 + 1) H1265 ((xN B a2 ((xline B a2 q1208 d1209).2.2))) (xdline B a2 q1208 d1209) w1269 f1285 ⟨by omega, by omega⟩ (by omega) a1278 h1288 (by omega) (by rw [← (‹xpf B a2 (902 - v1206).toNat q1208 d1209 = xparse B a2›), xpf_e (v := v1206) (q := q1208) (d := d1209) (by omega), if_pos (by omega), if_neg (by omega), if_pos (by omega)]) rfl)
                · exfalso
                  omega
              · have f1289 := f1251.tr f1270 rfl
                have f1290 := f1252.tr f1270 rfl
                show wp _ _ 13 88 [(4, vI v1206), (0, .ref r0), (3, .ref r3)] [vI z1271] _ H1265 _
                refine wp_of e13 c13_88 (rw_if_ne (p1 := 93) (p2 := 91) (by decide) rfl ⟨by omega, by omega⟩ (fun c1291 => ?_) (fun c1291 => ?_))
                · exfalso
                  omega
                · refine wp_of e13 c13_91 (rw_iconst (pc' := 92) rfl ?_)
                  have o1292 : ((xparse B a2).1) = (1, ((xline B a2 q1208 d1209).2.2), q1208) := by
                    rw [← (‹xpf B a2 (902 - v1206).toNat q1208 d1209 = xparse B a2›), xpf_e (by omega)]
                    repeat first | rw [xs_0 (by omega)] | rw [xs_1 (by omega)] | rw [if_pos (by omega)] | rw [if_neg (by omega)]
                    first | done | rfl | assumption | (exfalso; omega) | (refine Prod.ext ?_ (Prod.ext ?_ ?_) <;> (try dsimp only) <;> omega)
                  have o1292a : (((xparse B a2).1)).1 = 1 := by rw [o1292]
                  have o1292b : (((xparse B a2).1)).2.1 = ((xline B a2 q1208 d1209).2.2) := by rw [o1292]
                  have o1292c : (((xparse B a2).1)).2.2 = q1208 := by rw [o1292]
                  exact wp_zreturn e13 c13_92 rfl (by omega) ⟨rfl, w1269, f1289, 0, rfl, ⟨by omega, by omega⟩, (Or.inr ⟨by omega, by omega, by omega, by omega⟩)⟩
            · refine wp_of e13 c13_54 (rw_aload_n (pc' := 55) (v := .ref r3) rfl rfl rfl ?_)
              refine wp_of e13 c13_55 (xg_I (pc' := 58) lf_1_41 w1235 g3 sh_27 (by decide) (by decide) ty_27_7 rfl rfl (fun b1293 b1294 => ?_))
              refine wp_of e13 c13_58 (rw_if_le (p1 := 68) (p2 := 61) (by decide) rfl ⟨by omega, by omega⟩ (fun c1295 => ?_) (fun c1295 => ?_))
              · refine wp_of e13 c13_68 (rw_aload_n (pc' := 69) (v := .ref r0) rfl rfl rfl ?_)
                refine wp_of e13 c13_69 (rw_bipush (pc' := 71) (z := 6) rfl (by decide) ?_)
                refine wp_of e13 c13_71 (xc_V (pc' := 74) (r := r0) (as := [vI 6]) (st := []) (lm_1_47) rfl rfl (Nat.le_of_ble_eq_true rfl) w1235 g0 sh_3 (by decide) rfl (by decide) (u_20  w1235 g0 ⟨by omega, by omega⟩ q1257 gtk) (fun R1296 T1297 H1298 p1299 => ?_))
                obtain ⟨e1300, w1302, f1303, z1304, e1301, b1305, p1306⟩ := p1299
                subst e1300
                subst e1301
                obtain ⟨a1307, a1308, a1309⟩ := p1306
                have f1310 := f1251.tr f1303 rfl
                show wp _ _ 13 74 [(4, vI v1206), (0, .ref r0), (3, .ref r3)] [vI z1304] _ H1298 _
                refine wp_of e13 c13_74 (rw_if_eq (p1 := 81) (p2 := 77) (by decide) rfl ⟨by omega, by omega⟩ (fun c1311 => ?_) (fun c1311 => ?_))
                · refine wp_of e13 c13_81 (rw_iconst (pc' := 82) rfl ?_)
                  have o1312 : ((xparse B a2).1) = (6, ((xline B a2 q1208 d1209).2.2), q1208) := by
                    rw [← (‹xpf B a2 (902 - v1206).toNat q1208 d1209 = xparse B a2›), xpf_e (by omega)]
                    repeat first | rw [xs_0 (by omega)] | rw [xs_1 (by omega)] | rw [if_pos (by omega)] | rw [if_neg (by omega)]
                    first | done | rfl | assumption | (exfalso; omega) | (refine Prod.ext ?_ (Prod.ext ?_ ?_) <;> (try dsimp only) <;> omega)
                  have o1312a : (((xparse B a2).1)).1 = 6 := by rw [o1312]
                  have o1312b : (((xparse B a2).1)).2.1 = ((xline B a2 q1208 d1209).2.2) := by rw [o1312]
                  have o1312c : (((xparse B a2).1)).2.2 = q1208 := by rw [o1312]
                  exact wp_zreturn e13 c13_82 rfl (by omega) ⟨rfl, w1302, f1310, 0, rfl, ⟨by omega, by omega⟩, (Or.inr ⟨by omega, by omega, by omega, by omega⟩)⟩
                · exfalso
                  omega
              · refine wp_of e13 c13_61 (rw_aload_n (pc' := 62) (v := .ref r3) rfl rfl rfl ?_)
                refine wp_of e13 c13_62 (xg_I (pc' := 65) lf_1_44 w1235 g3 sh_27 (by decide) (by decide) ty_27_10 rfl rfl (fun b1313 b1314 => ?_))
                refine wp_of e13 c13_65 (rw_if_gt (p1 := 77) (p2 := 68) (by decide) rfl ⟨by omega, by omega⟩ (fun c1315 => ?_) (fun c1315 => ?_))
                · refine wp_of e13 c13_77 (rw_iconst (pc' := 78) rfl ?_)
                  refine wp_of e13 c13_78 (rw_goto (p1 := 82) (by decide) ?_)
                  have o1316 : ((xparse B a2).1) = (0, q1208, q1208) := by
                    rw [← (‹xpf B a2 (902 - v1206).toNat q1208 d1209 = xparse B a2›), xpf_e (by omega)]
                    repeat first | rw [xs_0 (by omega)] | rw [xs_1 (by omega)] | rw [if_pos (by omega)] | rw [if_neg (by omega)]
                    first | done | rfl | assumption | (exfalso; omega) | (refine Prod.ext ?_ (Prod.ext ?_ ?_) <;> (try dsimp only) <;> omega)
                  have o1316a : (((xparse B a2).1)).1 = 0 := by rw [o1316]
                  have o1316b : (((xparse B a2).1)).2.1 = q1208 := by rw [o1316]
                  have o1316c : (((xparse B a2).1)).2.2 = q1208 := by rw [o1316]
                  exact wp_zreturn e13 c13_82 rfl (by omega) ⟨rfl, w1235, f1251, 1, rfl, ⟨by omega, by omega⟩, (Or.inl ⟨by omega, by omega, by omega, by rw [← (‹xpf B a2 (902 - v1206).toNat q1208 d1209 = xparse B a2›), xpf_e (by omega), if_pos (by omega), if_pos (by omega), if_pos (by omega)]; exact a1245⟩)⟩
                · refine wp_of e13 c13_68 (rw_aload_n (pc' := 69) (v := .ref r0) rfl rfl rfl ?_)
                  refine wp_of e13 c13_69 (rw_bipush (pc' := 71) (z := 6) rfl (by decide) ?_)
                  refine wp_of e13 c13_71 (xc_V (pc' := 74) (r := r0) (as := [vI 6]) (st := []) (lm_1_47) rfl rfl (Nat.le_of_ble_eq_true rfl) w1235 g0 sh_3 (by decide) rfl (by decide) (u_20  w1235 g0 ⟨by omega, by omega⟩ q1257 gtk) (fun R1317 T1318 H1319 p1320 => ?_))
                  obtain ⟨e1321, w1323, f1324, z1325, e1322, b1326, p1327⟩ := p1320
                  subst e1321
                  subst e1322
                  obtain ⟨a1328, a1329, a1330⟩ := p1327
                  have f1331 := f1251.tr f1324 rfl
                  show wp _ _ 13 74 [(4, vI v1206), (0, .ref r0), (3, .ref r3)] [vI z1325] _ H1319 _
                  refine wp_of e13 c13_74 (rw_if_eq (p1 := 81) (p2 := 77) (by decide) rfl ⟨by omega, by omega⟩ (fun c1332 => ?_) (fun c1332 => ?_))
                  · refine wp_of e13 c13_81 (rw_iconst (pc' := 82) rfl ?_)
                    have o1333 : ((xparse B a2).1) = (6, ((xline B a2 q1208 d1209).2.2), q1208) := by
                      rw [← (‹xpf B a2 (902 - v1206).toNat q1208 d1209 = xparse B a2›), xpf_e (by omega)]
                      repeat first | rw [xs_0 (by omega)] | rw [xs_1 (by omega)] | rw [if_pos (by omega)] | rw [if_neg (by omega)]
                      first | done | rfl | assumption | (exfalso; omega) | (refine Prod.ext ?_ (Prod.ext ?_ ?_) <;> (try dsimp only) <;> omega)
                    have o1333a : (((xparse B a2).1)).1 = 6 := by rw [o1333]
                    have o1333b : (((xparse B a2).1)).2.1 = ((xline B a2 q1208 d1209).2.2) := by rw [o1333]
                    have o1333c : (((xparse B a2).1)).2.2 = q1208 := by rw [o1333]
                    exact wp_zreturn e13 c13_82 rfl (by omega) ⟨rfl, w1323, f1331, 0, rfl, ⟨by omega, by omega⟩, (Or.inr ⟨by omega, by omega, by omega, by omega⟩)⟩
                  · exfalso
                    omega
          · exfalso
            omega
        · have f1334 := f1220.tr f1236 rfl
          have f1335 := f1212.tr f1236 rfl
          show wp _ _ 13 39 [(4, vI v1206), (0, .ref r0), (3, .ref r3)] [vI z1237] _ H1231 _
          refine wp_of e13 c13_39 (rw_if_ne (p1 := 44) (p2 := 42) (by decide) rfl ⟨by omega, by omega⟩ (fun c1336 => ?_) (fun c1336 => ?_))
          · exfalso
            omega
          · refine wp_of e13 c13_42 (rw_iconst (pc' := 43) rfl ?_)
            have o1337 : ((xparse B a2).1) = ((xline B a2 q1208 d1209).1, (xline B a2 q1208 d1209).2.1, (xline B a2 q1208 d1209).2.2) := by
              rw [← (‹xpf B a2 (902 - v1206).toNat q1208 d1209 = xparse B a2›), xpf_e (by omega)]
              repeat first | rw [xs_0 (by omega)] | rw [xs_1 (by omega)] | rw [if_pos (by omega)] | rw [if_neg (by omega)]
              first | done | rfl | assumption | (exfalso; omega) | (refine Prod.ext ?_ (Prod.ext ?_ ?_) <;> (try dsimp only) <;> omega)
            have o1337a : (((xparse B a2).1)).1 = (xline B a2 q1208 d1209).1 := by rw [o1337]
            have o1337b : (((xparse B a2).1)).2.1 = (xline B a2 q1208 d1209).2.1 := by rw [o1337]
            have o1337c : (((xparse B a2).1)).2.2 = (xline B a2 q1208 d1209).2.2 := by rw [o1337]
            exact wp_zreturn e13 c13_43 rfl (by omega) ⟨rfl, w1235, f1334, 0, rfl, ⟨by omega, by omega⟩, (Or.inr ⟨by omega, by omega, by omega, by omega⟩)⟩
  have h1338 : DC T H687 r3 xD0 := (DC_fr w676 g3 f692 rfl p678)
  exact wp_lc (ks := [4, 0, 1, 2, 3]) (wl_c rfl (wl_c rfl (wl_c rfl wl_n))) rfl (by decide) (lp1203 _ 0 H687 (xG 32 32 B a2 0) xD0 w691 wfr.rf ⟨by omega, by omega⟩ (by omega) a695 h1338 (by omega) (rfl) rfl)
/-! StrikeAwake.putOnTape(I)V  -/
abbrev uq_10 (r0 : Nat) (a1 : Int) (tp : Nat) (B : Nat → Int) (t : Int) (T : wq_T) (H : wq_H) : Option Value → wq_T → wq_H → Prop := fun r T' H' => T = T' ∧ WT T H' ∧ wfr [(1, 9), (2, 999)] T H H' ∧ none = r ∧ (((H' r0 9 = t + 4) ∧ TP T H' tp (xpk B t a1 4)))
set_option maxHeartbeats 4000000 in
theorem u_10 {kt : Nat → Option mc_E} {T : wq_T} {H : wq_H} {r0 : Nat} {a1 : Int} {tp : Nat} {B : Nat → Int} {t : Int} (hW : WT T H) (g0 : T.2.2.2 r0 = some 1) (i1 : (-2147483648) ≤ a1 ∧ a1 ≤ 2147483647) (qtp : H r0 0 = (tp : Int)) (gtp : T.2.2.2 tp = some 2) (p0 : H r0 9 = t) (p1 : t ≤ 896) (hTP_tp : TP T H tp B) : wpc kt 1 10 [.ref r0, vI a1] T H (uq_10 r0 a1 tp B t T H) := by
  refine wp_enter e10 (Nat.le_of_ble_eq_true rfl) rfl ?_
  have f0 : wfr [(1, 9), (2, 999)] T H H := wfr.rf
  show wp _ _ 10 0 [(0, .ref r0), (1, vI a1)] [] _ H _
  have b147 : 0 ≤ H r0 9 ∧ H r0 9 ≤ 900 := hW.box g0 (n := 13) rfl (by decide) rfl
  refine wp_of e10 c10_0 (rw_bipush (pc' := 2) (z := 24) rfl (by decide) ?_)
  refine wp_of e10 c10_2 (rw_istore_n (pc' := 3) (z := 24) (L' := [(2, vI 24), (0, .ref r0), (1, vI a1)]) rfl rfl rfl ?_)
  have lp269 : ∀ (n270 : Nat) (v272 : Int) (H273 : wq_H) (ii274 : Nat), WT T H273 → wfr [(1, 9), (2, 999)] T H H273 → ((-8) ≤ v272 ∧ v272 ≤ 24) → TP T H273 tp (xpk B t a1 ii274) → (v272 = 24 - 8 * (ii274 : Int)) → (ii274 ≤ 4) → (H273 r0 9 = t + (ii274 : Int)) → (v272 + 8).toNat = n270 → wp kt 0 10 3 [(2, vI v272), (0, .ref r0), (1, vI a1)] [] T H273 (uq_10 r0 a1 tp B t T H) := by
    intro n270
    induction n270 using Nat.strongRecOn with
    | _ n270 ih271 =>
      intro v272 H273 ii274 w275 f276 b277 h279 x280 x281 x282 m278
      have f283 := f0.tr f276 rfl
      refine wp_of e10 c10_3 (rw_iload_n (pc' := 4) (z := v272) rfl rfl ?_)
      refine wp_of e10 c10_4 (rw_if_lt (p1 := 46) (p2 := 7) (by decide) rfl ⟨by omega, by omega⟩ (fun c284 => ?_) (fun c284 => ?_))
      · exact wp_return e10 c10_46 rfl ⟨rfl, w275, f283, rfl, ⟨by omega, by
          have e4 : ii274 = 4 := by omega
          rw [← e4]
          exact h279⟩⟩
      · refine wp_of e10 c10_7 (rw_aload_n (pc' := 8) (v := .ref r0) rfl rfl rfl ?_)
        refine wp_of e10 c10_8 (xg_I (pc' := 11) lf_0_62 w275 g0 sh_1 (by decide) (by decide) ty_1_9 rfl rfl (fun b285 b286 => ?_))
        refine wp_of e10 c10_11 (rw_sipush (pc' := 14) (z := 900) rfl (by decide) ?_)
        refine wp_of e10 c10_14 (rw_icmp_ge (p1 := 46) (p2 := 17) (by decide) rfl ⟨by omega, by omega⟩ ⟨by omega, by omega⟩ (fun c287 => ?_) (fun c287 => ?_))
        · exact wp_return e10 c10_46 rfl ⟨rfl, w275, f283, rfl, ⟨by omega, by
            have e4 : ii274 = 4 := by omega
            rw [← e4]
            exact h279⟩⟩
        · refine wp_of e10 c10_17 (rw_aload_n (pc' := 18) (v := .ref r0) rfl rfl rfl ?_)
          have k288 : H273 r0 0 = H r0 0 := (f276 r0 0 _ g0 rfl)
          have q289 : H273 r0 0 = (tp : Int) := k288.trans qtp
          refine wp_of e10 c10_18 (xg_K (pc' := 21) lf_0_9 w275 g0 sh_1 (by decide) (by decide) rfl q289 rfl ?_)
          refine wp_of e10 c10_21 (rw_aload_n (pc' := 22) (v := .ref r0) rfl rfl rfl ?_)
          refine wp_of e10 c10_22 (xg_I (pc' := 25) lf_0_62 w275 g0 sh_1 (by decide) (by decide) ty_1_9 rfl rfl (fun b290 b291 => ?_))
          refine wp_of e10 c10_25 (rw_iload_n (pc' := 26) (z := a1) rfl rfl ?_)
          refine wp_of e10 c10_26 (rw_iload_n (pc' := 27) (z := v272) rfl rfl ?_)
          refine wp_of e10 c10_27 (rw_ishr (pc' := 28) rfl ?_)
          obtain ⟨v292, e293⟩ : ∃ x : Int, x = wq_shr a1 v272 := ⟨_, rfl⟩
          rw [← e293]
          have b294 : -2147483648 ≤ v292 ∧ v292 ≤ 2147483647 := by
            rw [e293]
            exact wI_shr _ _
          refine wp_of e10 c10_28 (rw_i2b (pc' := 29) rfl ?_)
          obtain ⟨v295, e296⟩ : ∃ x : Int, x = wq_i2b v292 := ⟨_, rfl⟩
          rw [← e296]
          have b297 : -128 ≤ v295 ∧ v295 ≤ 127 := by
            rw [e296]
            exact wq_i2b_b _
          have o298 : v295 = wq_i2b (wq_shr a1 v272) := by
            subst_vars
            rfl
          refine wp_of e10 c10_29 (xs_B (pc' := 30) w275 gtp (by decide) sh_2 (by decide) (ty_2 _) (by omega) (by omega) ⟨by omega, by omega⟩ (by omega) (by omega) rfl (fun H299 e300 w301 => ?_))
          have f302 := f283.put' e300 gtp rfl
          have f303 := f276.put' e300 gtp rfl
          have h304 : TP T H299 tp (xpk B t a1 (ii274 + 1)) := TP_pk h279 e300 (by omega) o298 (by omega)
          refine wp_of e10 c10_30 (rw_aload_n (pc' := 31) (v := .ref r0) rfl rfl rfl ?_)
          refine wp_of e10 c10_31 (rw_dup (pc' := 32) rfl rfl ?_)
          have k305 : H299 r0 9 = H273 r0 9 := (wq_u_t e300 gtp g0 rfl 9)
          refine wp_of e10 c10_32 (xg_I (pc' := 35) lf_0_62 w301 g0 sh_1 (by decide) (by decide) ty_1_9 rfl rfl (fun b306 b307 => ?_))
          refine wp_of e10 c10_35 (rw_iconst (pc' := 36) rfl ?_)
          refine wp_of e10 c10_36 (rw_iadd (pc' := 37) rfl ?_)
          refine wp_of e10 c10_37 (xp_I (pc' := 40) lf_0_62 w301 g0 sh_1 (by decide) (by decide) ty_1_9 rfl rfl (by omega) (by omega) ⟨by omega, by omega⟩ rfl (fun H308 e309 w310 => ?_))
          have f311 := f302.put' e309 g0 rfl
          have f312 := f303.put' e309 g0 rfl
          have k313 : H308 r0 9 = (H299 r0 9) + 1 := wq_u_s e309
          refine wp_of e10 c10_40 (rw_iinc (pc' := 43) (z := v272) (L' := [(2, vI (v272 + (-8))), (0, .ref r0), (1, vI a1)]) rfl rfl rfl rfl ?_)
          refine wp_of e10 c10_43 (rw_goto (p1 := 3) (by decide) ?_)
          have h314 : TP T H308 tp (xpk B t a1 (ii274 + 1)) := (TP_fr w301 gtp ((wfr.rf (l := [(1, 9)])).put' e309 g0 rfl) rfl h304)
          exact wp_lc (ks := [2, 0, 1]) (wl_c rfl (wl_c rfl (wl_c rfl wl_n))) rfl (by decide) (ih271 _ (by omega) (v272 + (-8)) H308 ((ii274 + 1)) w310 f312 ⟨by omega, by omega⟩ h314 (by omega) (by omega) (by omega) rfl)
  have h315 : TP T H tp (xpk B t a1 0) := hTP_tp
  exact wp_lc (ks := [2, 0, 1]) (wl_c rfl (wl_c rfl (wl_c rfl wl_n))) rfl (by decide) (lp269 _ 24 H 0 hW wfr.rf ⟨by omega, by omega⟩ h315 (by omega) (by omega) (by omega) rfl)
/-! StrikeAwake.feed(IIIII)I  -/
abbrev uq_9 (r0 : Nat) (a1 : Int) (a2 : Int) (a3 : Int) (a4 : Int) (a5 : Int) (tp : Nat) (B : Nat → Int) (t : Int) (b1 : Int) (b2 : Int) (b3 : Int) (b4 : Int) (b5 : Int) (T : wq_T) (H : wq_H) : Option Value → wq_T → wq_H → Prop := fun r T' H' => T = T' ∧ WT T H' ∧ wfr [(1, 9), (2, 999)] T H H' ∧ ∃ z : Int, some (vI z) = r ∧ ((-2147483648) ≤ z ∧ z ≤ 2147483647) ∧ (((z = -1) ∧ (880 < t) ∧ (H' r0 9 = t) ∧ TP T H' tp B) ∨ ((0 ≤ z ∧ z ≤ 900) ∧ (t ≤ 880) ∧ (z = t + 20) ∧ (H' r0 9 = t + 20) ∧ TP T H' tp (xfk B t b1 b2 b3 b4 b5 20)))
set_option maxHeartbeats 4000000 in
theorem u_9 {kt : Nat → Option mc_E} {T : wq_T} {H : wq_H} {r0 : Nat} {a1 : Int} {a2 : Int} {a3 : Int} {a4 : Int} {a5 : Int} {tp : Nat} {B : Nat → Int} {t : Int} {b1 : Int} {b2 : Int} {b3 : Int} {b4 : Int} {b5 : Int} (hW : WT T H) (g0 : T.2.2.2 r0 = some 1) (i1 : (-2147483648) ≤ a1 ∧ a1 ≤ 2147483647) (i2 : (-2147483648) ≤ a2 ∧ a2 ≤ 2147483647) (i3 : (-2147483648) ≤ a3 ∧ a3 ≤ 2147483647) (i4 : (-2147483648) ≤ a4 ∧ a4 ≤ 2147483647) (i5 : (-2147483648) ≤ a5 ∧ a5 ≤ 2147483647) (qtp : H r0 0 = (tp : Int)) (gtp : T.2.2.2 tp = some 2) (p0 : H r0 9 = t) (p1 : a1 = b1) (p2 : a2 = b2) (p3 : a3 = b3) (p4 : a4 = b4) (p5 : a5 = b5) (hTP_tp : TP T H tp B) : wpc kt 2 9 [.ref r0, vI a1, vI a2, vI a3, vI a4, vI a5] T H (uq_9 r0 a1 a2 a3 a4 a5 tp B t b1 b2 b3 b4 b5 T H) := by
  refine wp_enter e9 (Nat.le_of_ble_eq_true rfl) rfl ?_
  have f0 : wfr [(1, 9), (2, 999)] T H H := wfr.rf
  show wp _ _ 9 0 [(0, .ref r0), (1, vI a1), (2, vI a2), (3, vI a3), (4, vI a4), (5, vI a5)] [] _ H _
  have b74 : 0 ≤ H r0 9 ∧ H r0 9 ≤ 900 := hW.box g0 (n := 13) rfl (by decide) rfl
  refine wp_of e9 c9_0 (rw_aload_n (pc' := 1) (v := .ref r0) rfl rfl rfl ?_)
  refine wp_of e9 c9_1 (xg_I (pc' := 4) lf_0_62 hW g0 sh_1 (by decide) (by decide) ty_1_9 rfl rfl (fun b75 b76 => ?_))
  refine wp_of e9 c9_4 (rw_sipush (pc' := 7) (z := 880) rfl (by decide) ?_)
  refine wp_of e9 c9_7 (rw_icmp_le (p1 := 12) (p2 := 10) (by decide) rfl ⟨by omega, by omega⟩ ⟨by omega, by omega⟩ (fun c77 => ?_) (fun c77 => ?_))
  · refine wp_of e9 c9_12 (rw_aload_n (pc' := 13) (v := .ref r0) rfl rfl rfl ?_)
    refine wp_of e9 c9_13 (rw_iload_n (pc' := 14) (z := a1) rfl rfl ?_)
    refine wp_of e9 c9_14 (xc_V (pc' := 17) (r := r0) (as := [vI a1]) (st := []) (lm_0_66) rfl rfl (Nat.le_of_ble_eq_true rfl) hW g0 sh_1 (by decide) rfl (by decide) (u_10 (B := B) (t := t) hW g0 ⟨by omega, by omega⟩ qtp gtp (by omega) (by omega) hTP_tp) (fun R78 T79 H80 p81 => ?_))
    obtain ⟨e82, w84, f85, e83, p86⟩ := p81
    subst e82
    subst e83
    obtain ⟨a87, a88⟩ := p86
    have f89 := f0.tr f85 rfl
    show wp _ _ 9 17 [(0, .ref r0), (1, vI a1), (2, vI a2), (3, vI a3), (4, vI a4), (5, vI a5)] [] _ H80 _
    refine wp_of e9 c9_17 (rw_aload_n (pc' := 18) (v := .ref r0) rfl rfl rfl ?_)
    refine wp_of e9 c9_18 (rw_iload_n (pc' := 19) (z := a2) rfl rfl ?_)
    have k90 : H80 r0 0 = H r0 0 := (f85 r0 0 _ g0 rfl)
    have q91 : H80 r0 0 = (tp : Int) := k90.trans qtp
    refine wp_of e9 c9_19 (xc_V (pc' := 22) (r := r0) (as := [vI a2]) (st := []) (lm_0_66) rfl rfl (Nat.le_of_ble_eq_true rfl) w84 g0 sh_1 (by decide) rfl (by decide) (u_10 (B := (xpk B t a1 4)) (t := (t + 4)) w84 g0 ⟨by omega, by omega⟩ q91 gtp (by omega) (by omega) a88) (fun R92 T93 H94 p95 => ?_))
    obtain ⟨e96, w98, f99, e97, p100⟩ := p95
    subst e96
    subst e97
    obtain ⟨a101, a102⟩ := p100
    have f103 := f89.tr f99 rfl
    show wp _ _ 9 22 [(0, .ref r0), (1, vI a1), (2, vI a2), (3, vI a3), (4, vI a4), (5, vI a5)] [] _ H94 _
    refine wp_of e9 c9_22 (rw_aload_n (pc' := 23) (v := .ref r0) rfl rfl rfl ?_)
    refine wp_of e9 c9_23 (rw_iload_n (pc' := 24) (z := a3) rfl rfl ?_)
    have k104 : H94 r0 0 = H80 r0 0 := (f99 r0 0 _ g0 rfl)
    have q105 : H94 r0 0 = (tp : Int) := k104.trans q91
    refine wp_of e9 c9_24 (xc_V (pc' := 27) (r := r0) (as := [vI a3]) (st := []) (lm_0_66) rfl rfl (Nat.le_of_ble_eq_true rfl) w98 g0 sh_1 (by decide) rfl (by decide) (u_10 (B := (xpk (xpk B t a1 4) (t + 4) a2 4)) (t := (t + 8)) w98 g0 ⟨by omega, by omega⟩ q105 gtp (by omega) (by omega) a102) (fun R106 T107 H108 p109 => ?_))
    obtain ⟨e110, w112, f113, e111, p114⟩ := p109
    subst e110
    subst e111
    obtain ⟨a115, a116⟩ := p114
    have f117 := f103.tr f113 rfl
    show wp _ _ 9 27 [(0, .ref r0), (1, vI a1), (2, vI a2), (3, vI a3), (4, vI a4), (5, vI a5)] [] _ H108 _
    refine wp_of e9 c9_27 (rw_aload_n (pc' := 28) (v := .ref r0) rfl rfl rfl ?_)
    refine wp_of e9 c9_28 (rw_iload (pc' := 30) (z := a4) rfl rfl ?_)
    have k118 : H108 r0 0 = H94 r0 0 := (f113 r0 0 _ g0 rfl)
    have q119 : H108 r0 0 = (tp : Int) := k118.trans q105
    refine wp_of e9 c9_30 (xc_V (pc' := 33) (r := r0) (as := [vI a4]) (st := []) (lm_0_66) rfl rfl (Nat.le_of_ble_eq_true rfl) w112 g0 sh_1 (by decide) rfl (by decide) (u_10 (B := (xpk (xpk (xpk B t a1 4) (t + 4) a2 4) (t + 8) a3 4)) (t := (t + 12)) w112 g0 ⟨by omega, by omega⟩ q119 gtp (by omega) (by omega) a116) (fun R120 T121 H122 p123 => ?_))
    obtain ⟨e124, w126, f127, e125, p128⟩ := p123
    subst e124
    subst e125
    obtain ⟨a129, a130⟩ := p128
    have f131 := f117.tr f127 rfl
    show wp _ _ 9 33 [(0, .ref r0), (1, vI a1), (2, vI a2), (3, vI a3), (4, vI a4), (5, vI a5)] [] _ H122 _
    refine wp_of e9 c9_33 (rw_aload_n (pc' := 34) (v := .ref r0) rfl rfl rfl ?_)
    refine wp_of e9 c9_34 (rw_iload (pc' := 36) (z := a5) rfl rfl ?_)
    have k132 : H122 r0 0 = H108 r0 0 := (f127 r0 0 _ g0 rfl)
    have q133 : H122 r0 0 = (tp : Int) := k132.trans q119
    refine wp_of e9 c9_36 (xc_V (pc' := 39) (r := r0) (as := [vI a5]) (st := []) (lm_0_66) rfl rfl (Nat.le_of_ble_eq_true rfl) w126 g0 sh_1 (by decide) rfl (by decide) (u_10 (B := (xpk (xpk (xpk (xpk B t a1 4) (t + 4) a2 4) (t + 8) a3 4) (t + 12) a4 4)) (t := (t + 16)) w126 g0 ⟨by omega, by omega⟩ q133 gtp (by omega) (by omega) a130) (fun R134 T135 H136 p137 => ?_))
    obtain ⟨e138, w140, f141, e139, p142⟩ := p137
    subst e138
    subst e139
    obtain ⟨a143, a144⟩ := p142
    have f145 := f131.tr f141 rfl
    show wp _ _ 9 39 [(0, .ref r0), (1, vI a1), (2, vI a2), (3, vI a3), (4, vI a4), (5, vI a5)] [] _ H136 _
    refine wp_of e9 c9_39 (rw_aload_n (pc' := 40) (v := .ref r0) rfl rfl rfl ?_)
    refine wp_of e9 c9_40 (xg_I (pc' := 43) lf_0_62 w140 g0 sh_1 (by decide) (by decide) ty_1_9 rfl rfl (fun b146 b147 => ?_))
    exact wp_ireturn e9 c9_43 rfl ⟨rfl, w140, f145, H136 r0 9, rfl, ⟨by omega, by omega⟩, (Or.inr ⟨by omega, by omega, by omega, by omega, by rw [← p1, ← p2, ← p3, ← p4, ← p5, ← xfk_4]; exact a144⟩)⟩
  · refine wp_of e9 c9_10 (rw_iconst (pc' := 11) rfl ?_)
    exact wp_ireturn e9 c9_11 rfl ⟨rfl, hW, f0, -1, rfl, ⟨by omega, by omega⟩, (Or.inl ⟨by omega, by omega, by omega, hTP_tp⟩)⟩
/-! StrikeAwake.refuse(I)I  -/
abbrev uq_12 (r0 : Nat) (a1 : Int) (T : wq_T) (H : wq_H) : Option Value → wq_T → wq_H → Prop := fun r T' H' => T = T' ∧ WT T H' ∧ wfr [(1, 10)] T H H' ∧ ∃ z : Int, some (vI z) = r ∧ ((-2147483648) ≤ z ∧ z ≤ 2147483647) ∧ (((z = -1) ∧ (H' r0 10 = a1)))
set_option maxHeartbeats 4000000 in
theorem u_12 {kt : Nat → Option mc_E} {T : wq_T} {H : wq_H} {r0 : Nat} {a1 : Int} (hW : WT T H) (g0 : T.2.2.2 r0 = some 1) (i1 : (-2147483648) ≤ a1 ∧ a1 ≤ 2147483647) : wpc kt 1 12 [.ref r0, vI a1] T H (uq_12 r0 a1 T H) := by
  refine wp_enter e12 (Nat.le_of_ble_eq_true rfl) rfl ?_
  have f0 : wfr [(1, 10)] T H H := wfr.rf
  show wp _ _ 12 0 [(0, .ref r0), (1, vI a1)] [] _ H _
  refine wp_of e12 c12_0 (rw_aload_n (pc' := 1) (v := .ref r0) rfl rfl rfl ?_)
  refine wp_of e12 c12_1 (rw_iload_n (pc' := 2) (z := a1) rfl rfl ?_)
  refine wp_of e12 c12_2 (xp_I (pc' := 5) lf_0_102 hW g0 sh_1 (by decide) (by decide) ty_1_10 rfl rfl (by omega) (by omega) ⟨by omega, by omega⟩ rfl (fun H6 e7 w8 => ?_))
  have f9 := f0.put' e7 g0 rfl
  have k10 : H6 r0 10 = a1 := wq_u_s e7
  refine wp_of e12 c12_5 (rw_iconst (pc' := 6) rfl ?_)
  exact wp_ireturn e12 c12_6 rfl ⟨rfl, w8, f9, -1, rfl, ⟨by omega, by omega⟩, ⟨by omega, by omega⟩⟩
/-! StrikeAwake.answer(I)I  -/
abbrev uq_51 (r0 : Nat) (a1 : Int) (T : wq_T) (H : wq_H) : Option Value → wq_T → wq_H → Prop := fun r T' H' => T = T' ∧ WT T H' ∧ wfr [(1, 10)] T H H' ∧ ∃ z : Int, some (vI z) = r ∧ ((-2147483648) ≤ z ∧ z ≤ 2147483647) ∧ (((z = a1) ∧ (H' r0 10 = 0)))
set_option maxHeartbeats 4000000 in
theorem u_51 {kt : Nat → Option mc_E} {T : wq_T} {H : wq_H} {r0 : Nat} {a1 : Int} (hW : WT T H) (g0 : T.2.2.2 r0 = some 1) (i1 : (-2147483648) ≤ a1 ∧ a1 ≤ 2147483647) : wpc kt 1 51 [.ref r0, vI a1] T H (uq_51 r0 a1 T H) := by
  refine wp_enter e51 (Nat.le_of_ble_eq_true rfl) rfl ?_
  have f0 : wfr [(1, 10)] T H H := wfr.rf
  show wp _ _ 51 0 [(0, .ref r0), (1, vI a1)] [] _ H _
  refine wp_of e51 c51_0 (rw_aload_n (pc' := 1) (v := .ref r0) rfl rfl rfl ?_)
  refine wp_of e51 c51_1 (rw_iconst (pc' := 2) rfl ?_)
  refine wp_of e51 c51_2 (xp_I (pc' := 5) lf_0_102 hW g0 sh_1 (by decide) (by decide) ty_1_10 rfl rfl (by omega) (by omega) ⟨by omega, by omega⟩ rfl (fun H6 e7 w8 => ?_))
  have f9 := f0.put' e7 g0 rfl
  have k10 : H6 r0 10 = 0 := wq_u_s e7
  refine wp_of e51 c51_5 (rw_iload_n (pc' := 6) (z := a1) rfl rfl ?_)
  exact wp_ireturn e51 c51_6 rfl ⟨rfl, w8, f9, a1, rfl, ⟨by omega, by omega⟩, ⟨by omega, by omega⟩⟩
