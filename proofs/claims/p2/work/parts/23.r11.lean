/-! methods of the reference (own work, written by wip/gen2/sx.py) -/
/-! StrikeAwakeModel.part(IZ)I -/
theorem e279 : wq_en 279 = some (9, 7, false, some FieldType.int) := rfl
theorem c279_0 : mc_cd 279 0 = some (.aload_n 0, 1) := by decide +kernel
theorem c279_1 : mc_cd 279 1 = some (.iconst 0, 1) := by decide +kernel
theorem c279_2 : mc_cd 279 2 = some (.putfield 48, 3) := by decide +kernel
theorem c279_5 : mc_cd 279 5 = some (.aload_n 0, 1) := by decide +kernel
theorem c279_6 : mc_cd 279 6 = some (.aload_n 0, 1) := by decide +kernel
theorem c279_7 : mc_cd 279 7 = some (.iload_n 1, 1) := by decide +kernel
theorem c279_8 : mc_cd 279 8 = some (.invokevirtual 487, 3) := by decide +kernel
theorem c279_11 : mc_cd 279 11 = some (.invokevirtual 447, 3) := by decide +kernel
theorem c279_14 : mc_cd 279 14 = some (.istore_n 3, 1) := by decide +kernel
theorem c279_15 : mc_cd 279 15 = some (.iload_n 3, 1) := by decide +kernel
theorem c279_16 : mc_cd 279 16 = some (.ifCond .le 9, 3) := by decide +kernel
theorem c279_19 : mc_cd 279 19 = some (.aload_n 0, 1) := by decide +kernel
theorem c279_20 : mc_cd 279 20 = some (.iload_n 3, 1) := by decide +kernel
theorem c279_21 : mc_cd 279 21 = some (.invokevirtual 490, 3) := by decide +kernel
theorem c279_24 : mc_cd 279 24 = some (.ireturn, 1) := by decide +kernel
theorem c279_25 : mc_cd 279 25 = some (.iconst 0, 1) := by decide +kernel
theorem c279_26 : mc_cd 279 26 = some (.istore 4, 2) := by decide +kernel
theorem c279_28 : mc_cd 279 28 = some (.iconst 0, 1) := by decide +kernel
theorem c279_29 : mc_cd 279 29 = some (.istore 5, 2) := by decide +kernel
theorem c279_31 : mc_cd 279 31 = some (.iload 5, 2) := by decide +kernel
theorem c279_33 : mc_cd 279 33 = some (.aload_n 0, 1) := by decide +kernel
theorem c279_34 : mc_cd 279 34 = some (.getfield 422, 3) := by decide +kernel
theorem c279_37 : mc_cd 279 37 = some (.if_icmp .ge 75, 3) := by decide +kernel
theorem c279_40 : mc_cd 279 40 = some (.aload_n 0, 1) := by decide +kernel
theorem c279_41 : mc_cd 279 41 = some (.aload_n 0, 1) := by decide +kernel
theorem c279_42 : mc_cd 279 42 = some (.getfield 42, 3) := by decide +kernel
theorem c279_45 : mc_cd 279 45 = some (.iload 5, 2) := by decide +kernel
theorem c279_47 : mc_cd 279 47 = some (.iaload, 1) := by decide +kernel
theorem c279_48 : mc_cd 279 48 = some (.invokevirtual 425, 3) := by decide +kernel
theorem c279_51 : mc_cd 279 51 = some (.aload_n 0, 1) := by decide +kernel
theorem c279_52 : mc_cd 279 52 = some (.getfield 17, 3) := by decide +kernel
theorem c279_55 : mc_cd 279 55 = some (.iload_n 1, 1) := by decide +kernel
theorem c279_56 : mc_cd 279 56 = some (.iaload, 1) := by decide +kernel
theorem c279_57 : mc_cd 279 57 = some (.iconst 1, 1) := by decide +kernel
theorem c279_58 : mc_cd 279 58 = some (.isub, 1) := by decide +kernel
theorem c279_59 : mc_cd 279 59 = some (.aload_n 0, 1) := by decide +kernel
theorem c279_60 : mc_cd 279 60 = some (.aload_n 0, 1) := by decide +kernel
theorem c279_61 : mc_cd 279 61 = some (.getfield 39, 3) := by decide +kernel
theorem c279_64 : mc_cd 279 64 = some (.iload_n 1, 1) := by decide +kernel
theorem c279_65 : mc_cd 279 65 = some (.invokevirtual 386, 3) := by decide +kernel
theorem c279_68 : mc_cd 279 68 = some (.isub, 1) := by decide +kernel
theorem c279_69 : mc_cd 279 69 = some (.istore 6, 2) := by decide +kernel
theorem c279_71 : mc_cd 279 71 = some (.iload 5, 2) := by decide +kernel
theorem c279_73 : mc_cd 279 73 = some (.ifCond .eq 24, 3) := by decide +kernel
theorem c279_76 : mc_cd 279 76 = some (.iload_n 2, 1) := by decide +kernel
theorem c279_77 : mc_cd 279 77 = some (.ifCond .eq 13, 3) := by decide +kernel
theorem c279_80 : mc_cd 279 80 = some (.iload 6, 2) := by decide +kernel
theorem c279_82 : mc_cd 279 82 = some (.iload 4, 2) := by decide +kernel
theorem c279_84 : mc_cd 279 84 = some (.if_icmp .le 18, 3) := by decide +kernel
theorem c279_87 : mc_cd 279 87 = some (.goto 10, 3) := by decide +kernel
theorem c279_90 : mc_cd 279 90 = some (.iload 6, 2) := by decide +kernel
theorem c279_92 : mc_cd 279 92 = some (.iload 4, 2) := by decide +kernel
theorem c279_94 : mc_cd 279 94 = some (.if_icmp .ge 8, 3) := by decide +kernel
theorem c279_97 : mc_cd 279 97 = some (.iload 6, 2) := by decide +kernel
theorem c279_99 : mc_cd 279 99 = some (.goto 5, 3) := by decide +kernel
theorem c279_102 : mc_cd 279 102 = some (.iload 4, 2) := by decide +kernel
theorem c279_104 : mc_cd 279 104 = some (.istore 4, 2) := by decide +kernel
theorem c279_106 : mc_cd 279 106 = some (.iinc 5 1, 3) := by decide +kernel
theorem c279_109 : mc_cd 279 109 = some (.goto (-78), 3) := by decide +kernel
theorem c279_112 : mc_cd 279 112 = some (.aload_n 0, 1) := by decide +kernel
theorem c279_113 : mc_cd 279 113 = some (.iload 4, 2) := by decide +kernel
theorem c279_115 : mc_cd 279 115 = some (.invokevirtual 58, 3) := by decide +kernel
theorem c279_118 : mc_cd 279 118 = some (.ireturn, 1) := by decide +kernel
abbrev q_279 (r0 : Nat) (a1 : Int) (a2 : Int) (T : wq_T) (H : wq_H) : Option Value → wq_T → wq_H → Prop := fun r T' H' => T = T' ∧ WT T H' ∧ wfr [(42, 0), (42, 1), (42, 2), (42, 28), (42, 29), (51, 999), (52, 999)] T H H' ∧ ∃ z : Int, some (vI z) = r ∧ ((-2147483648) ≤ z ∧ z ≤ 2147483647) ∧ (wKI H' r0 = 1)
set_option maxHeartbeats 4000000 in
theorem s_279 {kt : Nat → Option mc_E} {T : wq_T} {H : wq_H} {r0 : Nat} {a1 : Int} {a2 : Int} (hW : WT T H) (g0 : T.2.2.2 r0 = some 42) (i1 : (-2147483648) ≤ a1 ∧ a1 ≤ 2147483647) (i2 : 0 ≤ a2 ∧ a2 ≤ 1) (p0 : wKI H r0 = 1) : wpc kt 9 279 [.ref r0, vI a1, vI a2] T H (q_279 r0 a1 a2 T H) := by
  refine wp_enter e279 (Nat.le_of_ble_eq_true rfl) rfl ?_
  have f0 : wfr [(42, 0), (42, 1), (42, 2), (42, 28), (42, 29), (51, 999), (52, 999)] T H H := wfr.rf
  show wp _ _ 279 0 [(0, .ref r0), (1, vI a1), (2, vI a2)] [] _ H _
  refine wp_of e279 c279_0 (rw_aload_n (pc' := 1) (v := .ref r0) rfl rfl rfl ?_)
  refine wp_of e279 c279_1 (rw_iconst (pc' := 2) rfl ?_)
  refine wp_of e279 c279_2 (xp_I (pc' := 5) lf_9_48 hW g0 sh_42 (by decide) (by decide) ty_42_0 rfl rfl (by omega) (by omega) ⟨by omega, by omega⟩ rfl (fun H210581 e210582 w210583 => ?_))
  have f210584 := f0.put' e210582 g0 rfl
  have k210585 : H210581 r0 0 = 0 := wq_u_s e210582
  refine wp_of e279 c279_5 (rw_aload_n (pc' := 6) (v := .ref r0) rfl rfl rfl ?_)
  refine wp_of e279 c279_6 (rw_aload_n (pc' := 7) (v := .ref r0) rfl rfl rfl ?_)
  refine wp_of e279 c279_7 (rw_iload_n (pc' := 8) (z := a1) rfl rfl ?_)
  refine wp_of e279 c279_8 (xc_V (pc' := 11) (r := r0) (as := [vI a1]) (st := [.ref r0]) (lm_9_487) rfl rfl (Nat.le_of_ble_eq_true rfl) w210583 g0 sh_42 (by decide) rfl (by decide) (s_280 w210583 g0 ⟨by omega, by omega⟩) (fun R210586 T210587 H210588 p210589 => ?_))
  obtain ⟨e210590, e210592, z210594, e210591, b210595, p210593⟩ := p210589
  subst e210590
  subst e210591
  subst e210592
  show wp _ _ 279 11 [(0, .ref r0), (1, vI a1), (2, vI a2)] [vI z210594, .ref r0] _ H210581 _
  have k210596 : wKI H210581 r0 = wKI H r0 := (wKI_fr hW g0 ((wfr.rf (l := [(42, 0)])).put' e210582 g0 rfl) rfl)
  refine wp_of e279 c279_11 (xc_V (pc' := 14) (r := r0) (as := [vI z210594]) (st := []) (lm_9_447) rfl rfl (Nat.le_of_ble_eq_true rfl) w210583 g0 sh_42 (by decide) rfl (by decide) (s_253 w210583 g0 ⟨by omega, by omega⟩ (by omega) (by omega)) (fun R210597 T210598 H210599 p210600 => ?_))
  obtain ⟨e210601, w210603, f210604, z210609, e210602, b210610, p210605, p210606, p210607, p210608⟩ := p210600
  subst e210601
  subst e210602
  have f210611 := f210584.tr f210604 rfl
  show wp _ _ 279 14 [(0, .ref r0), (1, vI a1), (2, vI a2)] [vI z210609] _ H210599 _
  refine wp_of e279 c279_14 (rw_istore_n (pc' := 15) (z := z210609) (L' := [(3, vI z210609), (0, .ref r0), (1, vI a1), (2, vI a2)]) rfl rfl rfl ?_)
  refine wp_of e279 c279_15 (rw_iload_n (pc' := 16) (z := z210609) rfl rfl ?_)
  refine wp_of e279 c279_16 (rw_if_le (p1 := 25) (p2 := 19) (by decide) rfl ⟨by omega, by omega⟩ (fun c210612 => ?_) (fun c210612 => ?_))
  · refine wp_of e279 c279_25 (rw_iconst (pc' := 26) rfl ?_)
    refine wp_of e279 c279_26 (rw_istore (pc' := 28) (z := 0) (L' := [(4, vI 0), (3, vI z210609), (0, .ref r0), (1, vI a1), (2, vI a2)]) rfl rfl rfl ?_)
    refine wp_of e279 c279_28 (rw_iconst (pc' := 29) rfl ?_)
    refine wp_of e279 c279_29 (rw_istore (pc' := 31) (z := 0) (L' := [(5, vI 0), (4, vI 0), (3, vI z210609), (0, .ref r0), (1, vI a1), (2, vI a2)]) rfl rfl rfl ?_)
    have lp211010 : ∀ (n211011 : Nat) (v211013 : Int) (v211014 : Int) (H211015 : wq_H), WT T H211015 → wfr [(51, 999)] T H210599 H211015 → (0 ≤ v211013 ∧ v211013 ≤ 20000) → ((-2147483648) ≤ v211014 ∧ v211014 ≤ 2147483647) → (20000 - v211013).toNat = n211011 → wp kt 8 279 31 [(5, vI v211013), (4, vI v211014), (0, .ref r0), (1, vI a1), (2, vI a2)] [] T H211015 (q_279 r0 a1 a2 T H) := by
      intro n211011
      induction n211011 using Nat.strongRecOn with
      | _ n211011 ih211012 =>
        intro v211013 v211014 H211015 w211016 f211017 b211018 b211019 m211020
        have f211021 := f210611.tr f211017 rfl
        refine wp_of e279 c279_31 (rw_iload (pc' := 33) (z := v211013) rfl rfl ?_)
        refine wp_of e279 c279_33 (rw_aload_n (pc' := 34) (v := .ref r0) rfl rfl rfl ?_)
        have k211022 : H211015 r0 29 = H210599 r0 29 := (f211017 r0 29 _ g0 rfl)
        refine wp_of e279 c279_34 (xg_I (pc' := 37) lf_9_422 w211016 g0 sh_42 (by decide) (by decide) ty_42_29 rfl rfl (fun b211023 b211024 => ?_))
        refine wp_of e279 c279_37 (rw_icmp_ge (p1 := 112) (p2 := 40) (by decide) rfl ⟨by omega, by omega⟩ ⟨by omega, by omega⟩ (fun c211025 => ?_) (fun c211025 => ?_))
        · refine wp_of e279 c279_112 (rw_aload_n (pc' := 113) (v := .ref r0) rfl rfl rfl ?_)
          refine wp_of e279 c279_113 (rw_iload (pc' := 115) (z := v211014) rfl rfl ?_)
          refine wp_of e279 c279_115 (xc_V (pc' := 118) (r := r0) (as := [vI v211014]) (st := []) (lm_9_58) rfl rfl (Nat.le_of_ble_eq_true rfl) w211016 g0 sh_42 (by decide) rfl (by decide) (s_209 w211016 g0 ⟨by omega, by omega⟩) (fun R211026 T211027 H211028 p211029 => ?_))
          obtain ⟨e211030, w211032, f211033, z211034, e211031, b211035⟩ := p211029
          subst e211030
          subst e211031
          have f211036 := f211021.tr f211033 rfl
          show wp _ _ 279 118 [(5, vI v211013), (4, vI v211014), (0, .ref r0), (1, vI a1), (2, vI a2)] [vI z211034] _ H211028 _
          have k211037 : wKI H211028 r0 = wKI H210599 r0 := ((wKI_fr w211016 g0 f211033 rfl).trans (wKI_fr w210603 g0 f211017 rfl))
          exact wp_ireturn e279 c279_118 rfl ⟨rfl, w211032, f211036, z211034, rfl, ⟨by omega, by omega⟩, by omega⟩
        · refine wp_of e279 c279_40 (rw_aload_n (pc' := 41) (v := .ref r0) rfl rfl rfl ?_)
          refine wp_of e279 c279_41 (rw_aload_n (pc' := 42) (v := .ref r0) rfl rfl rfl ?_)
          refine wp_of e279 c279_42 (xg_R (pc' := 45) lf_9_42 w211016 g0 sh_42 (by decide) (by decide) ty_42_30 rfl rfl (fun r211038 q211039 g211040 => ?_))
          refine wp_of e279 c279_45 (rw_iload (pc' := 47) (z := v211013) rfl rfl ?_)
          refine wp_of e279 c279_47 (xa_I (so := 0) (pc' := 48) w211016 g211040 sh_52 (by decide) (ty_52 _) (by omega) (by omega) rfl (fun b211041 b211042 => ?_))
          have k211043 : wLM H211015 r0 = wLM H210599 r0 := (wLM_fr w210603 g0 f211017 rfl)
          have k211044 : H211015 r0 3 = H210581 r0 3 := ((f211017 r0 3 _ g0 rfl).trans (f210604 r0 3 _ g0 rfl))
          obtain ⟨r211045, q211046, g211047⟩ := (w211016.opt g0 (t' := 54) (n := 33) (j := 3) (p := 0) (q := 0) rfl (by decide) rfl).resolve_left (by omega)
          refine wp_of e279 c279_48 (xc_V (pc' := 51) (r := r0) (as := [vI (H211015 r211038 (v211013.toNat))]) (st := []) (lm_9_425) rfl rfl (Nat.le_of_ble_eq_true rfl) w211016 g0 sh_42 (by decide) rfl (by decide) (s_243 w211016 g0 ⟨by omega, by omega⟩ q211046 g211047 (by omega)) (fun R211048 T211049 H211050 p211051 => ?_))
          obtain ⟨e211052, w211054, f211055, e211053⟩ := p211051
          subst e211052
          subst e211053
          have f211056 := f211021.tr f211055 rfl
          have f211057 := f211017.tr f211055 rfl
          show wp _ _ 279 51 [(5, vI v211013), (4, vI v211014), (0, .ref r0), (1, vI a1), (2, vI a2)] [] _ H211050 _
          refine wp_of e279 c279_51 (rw_aload_n (pc' := 52) (v := .ref r0) rfl rfl rfl ?_)
          refine wp_of e279 c279_52 (xg_R (pc' := 55) lf_9_17 w211054 g0 sh_42 (by decide) (by decide) ty_42_20 rfl rfl (fun r211058 q211059 g211060 => ?_))
          refine wp_of e279 c279_55 (rw_iload_n (pc' := 56) (z := a1) rfl rfl ?_)
          refine wp_of e279 c279_56 (xa_I (so := 0) (pc' := 57) w211054 g211060 sh_44 (by decide) (ty_44 _) (by omega) (by omega) rfl (fun b211061 b211062 => ?_))
          refine wp_of e279 c279_57 (rw_iconst (pc' := 58) rfl ?_)
          refine wp_of e279 c279_58 (rw_isubw (pc' := 59) rfl ?_)
          obtain ⟨v211063, e211064⟩ : ∃ x : Int, x = wq_w ((H211050 r211058 (a1.toNat)) - 1) := ⟨_, rfl⟩
          rw [← e211064]
          have b211065 : -2147483648 ≤ v211063 ∧ v211063 ≤ 2147483647 := by
            rw [e211064]
            exact wI_w _
          refine wp_of e279 c279_59 (rw_aload_n (pc' := 60) (v := .ref r0) rfl rfl rfl ?_)
          refine wp_of e279 c279_60 (rw_aload_n (pc' := 61) (v := .ref r0) rfl rfl rfl ?_)
          refine wp_of e279 c279_61 (xg_R (pc' := 64) lf_9_39 w211054 g0 sh_42 (by decide) (by decide) ty_42_27 rfl rfl (fun r211066 q211067 g211068 => ?_))
          refine wp_of e279 c279_64 (rw_iload_n (pc' := 65) (z := a1) rfl rfl ?_)
          have k211069 : H211050 r0 3 = H211015 r0 3 := (f211055 r0 3 _ g0 rfl)
          have q211070 : H211050 r0 3 = (r211045 : Int) := k211069.trans q211046
          refine wp_of e279 c279_65 (xc_V (pc' := 68) (r := r0) (as := [.ref r211066, vI a1]) (st := [vI v211063]) (lm_9_386) rfl rfl (Nat.le_of_ble_eq_true rfl) w211054 g0 sh_42 (by decide) rfl (by decide) (s_228_m_lot w211054 g0 g211068 ⟨by omega, by omega⟩ q211070 g211047) (fun R211071 T211072 H211073 p211074 => ?_))
          obtain ⟨e211075, e211077, z211078, e211076, b211079⟩ := p211074
          subst e211075
          subst e211076
          subst e211077
          show wp _ _ 279 68 [(5, vI v211013), (4, vI v211014), (0, .ref r0), (1, vI a1), (2, vI a2)] [vI z211078, vI v211063] _ H211050 _
          refine wp_of e279 c279_68 (rw_isubw (pc' := 69) rfl ?_)
          obtain ⟨v211080, e211081⟩ : ∃ x : Int, x = wq_w (v211063 - z211078) := ⟨_, rfl⟩
          rw [← e211081]
          have b211082 : -2147483648 ≤ v211080 ∧ v211080 ≤ 2147483647 := by
            rw [e211081]
            exact wI_w _
          refine wp_of e279 c279_69 (rw_istore (pc' := 71) (z := v211080) (L' := [(6, vI v211080), (5, vI v211013), (4, vI v211014), (0, .ref r0), (1, vI a1), (2, vI a2)]) rfl rfl rfl ?_)
          refine wp_of e279 c279_71 (rw_iload (pc' := 73) (z := v211013) rfl rfl ?_)
          refine wp_of e279 c279_73 (rw_if_eq (p1 := 97) (p2 := 76) (by decide) rfl ⟨by omega, by omega⟩ (fun c211083 => ?_) (fun c211083 => ?_))
          · refine wp_of e279 c279_97 (rw_iload (pc' := 99) (z := v211080) rfl rfl ?_)
            refine wp_of e279 c279_99 (rw_goto (p1 := 104) (by decide) ?_)
            refine wp_of e279 c279_104 (rw_istore (pc' := 106) (z := v211080) (L' := [(4, vI v211080), (6, vI v211080), (5, vI v211013), (0, .ref r0), (1, vI a1), (2, vI a2)]) rfl rfl rfl ?_)
            refine wp_of e279 c279_106 (rw_iinc (pc' := 109) (z := v211013) (L' := [(5, vI (v211013 + 1)), (4, vI v211080), (6, vI v211080), (0, .ref r0), (1, vI a1), (2, vI a2)]) rfl rfl rfl rfl ?_)
            refine wp_of e279 c279_109 (rw_goto (p1 := 31) (by decide) ?_)
            exact wp_lc (ks := [5, 4, 6, 0, 1, 2]) (wl_c rfl (wl_c rfl (wl_c rfl (wl_c rfl (wl_c rfl wl_n))))) rfl (by decide) (ih211012 _ (by omega) (v211013 + 1) v211080 H211050 w211054 f211057 ⟨by omega, by omega⟩ ⟨by omega, by omega⟩ rfl)
          · refine wp_of e279 c279_76 (rw_iload_n (pc' := 77) (z := a2) rfl rfl ?_)
            refine wp_of e279 c279_77 (rw_if_eq (p1 := 90) (p2 := 80) (by decide) rfl ⟨by omega, by omega⟩ (fun c211084 => ?_) (fun c211084 => ?_))
            · refine wp_of e279 c279_90 (rw_iload (pc' := 92) (z := v211080) rfl rfl ?_)
              refine wp_of e279 c279_92 (rw_iload (pc' := 94) (z := v211014) rfl rfl ?_)
              refine wp_of e279 c279_94 (rw_icmp_ge (p1 := 102) (p2 := 97) (by decide) rfl ⟨by omega, by omega⟩ ⟨by omega, by omega⟩ (fun c211085 => ?_) (fun c211085 => ?_))
              · refine wp_of e279 c279_102 (rw_iload (pc' := 104) (z := v211014) rfl rfl ?_)
                refine wp_of e279 c279_104 (rw_istore (pc' := 106) (z := v211014) (L' := [(4, vI v211014), (6, vI v211080), (5, vI v211013), (0, .ref r0), (1, vI a1), (2, vI a2)]) rfl rfl rfl ?_)
                refine wp_of e279 c279_106 (rw_iinc (pc' := 109) (z := v211013) (L' := [(5, vI (v211013 + 1)), (4, vI v211014), (6, vI v211080), (0, .ref r0), (1, vI a1), (2, vI a2)]) rfl rfl rfl rfl ?_)
                refine wp_of e279 c279_109 (rw_goto (p1 := 31) (by decide) ?_)
                exact wp_lc (ks := [5, 4, 6, 0, 1, 2]) (wl_c rfl (wl_c rfl (wl_c rfl (wl_c rfl (wl_c rfl wl_n))))) rfl (by decide) (ih211012 _ (by omega) (v211013 + 1) v211014 H211050 w211054 f211057 ⟨by omega, by omega⟩ ⟨by omega, by omega⟩ rfl)
              · refine wp_of e279 c279_97 (rw_iload (pc' := 99) (z := v211080) rfl rfl ?_)
                refine wp_of e279 c279_99 (rw_goto (p1 := 104) (by decide) ?_)
                refine wp_of e279 c279_104 (rw_istore (pc' := 106) (z := v211080) (L' := [(4, vI v211080), (6, vI v211080), (5, vI v211013), (0, .ref r0), (1, vI a1), (2, vI a2)]) rfl rfl rfl ?_)
                refine wp_of e279 c279_106 (rw_iinc (pc' := 109) (z := v211013) (L' := [(5, vI (v211013 + 1)), (4, vI v211080), (6, vI v211080), (0, .ref r0), (1, vI a1), (2, vI a2)]) rfl rfl rfl rfl ?_)
                refine wp_of e279 c279_109 (rw_goto (p1 := 31) (by decide) ?_)
                exact wp_lc (ks := [5, 4, 6, 0, 1, 2]) (wl_c rfl (wl_c rfl (wl_c rfl (wl_c rfl (wl_c rfl wl_n))))) rfl (by decide) (ih211012 _ (by omega) (v211013 + 1) v211080 H211050 w211054 f211057 ⟨by omega, by omega⟩ ⟨by omega, by omega⟩ rfl)
            · refine wp_of e279 c279_80 (rw_iload (pc' := 82) (z := v211080) rfl rfl ?_)
              refine wp_of e279 c279_82 (rw_iload (pc' := 84) (z := v211014) rfl rfl ?_)
              refine wp_of e279 c279_84 (rw_icmp_le (p1 := 102) (p2 := 87) (by decide) rfl ⟨by omega, by omega⟩ ⟨by omega, by omega⟩ (fun c211086 => ?_) (fun c211086 => ?_))
              · refine wp_of e279 c279_102 (rw_iload (pc' := 104) (z := v211014) rfl rfl ?_)
                refine wp_of e279 c279_104 (rw_istore (pc' := 106) (z := v211014) (L' := [(4, vI v211014), (6, vI v211080), (5, vI v211013), (0, .ref r0), (1, vI a1), (2, vI a2)]) rfl rfl rfl ?_)
                refine wp_of e279 c279_106 (rw_iinc (pc' := 109) (z := v211013) (L' := [(5, vI (v211013 + 1)), (4, vI v211014), (6, vI v211080), (0, .ref r0), (1, vI a1), (2, vI a2)]) rfl rfl rfl rfl ?_)
                refine wp_of e279 c279_109 (rw_goto (p1 := 31) (by decide) ?_)
                exact wp_lc (ks := [5, 4, 6, 0, 1, 2]) (wl_c rfl (wl_c rfl (wl_c rfl (wl_c rfl (wl_c rfl wl_n))))) rfl (by decide) (ih211012 _ (by omega) (v211013 + 1) v211014 H211050 w211054 f211057 ⟨by omega, by omega⟩ ⟨by omega, by omega⟩ rfl)
              · refine wp_of e279 c279_87 (rw_goto (p1 := 97) (by decide) ?_)
                refine wp_of e279 c279_97 (rw_iload (pc' := 99) (z := v211080) rfl rfl ?_)
                refine wp_of e279 c279_99 (rw_goto (p1 := 104) (by decide) ?_)
                refine wp_of e279 c279_104 (rw_istore (pc' := 106) (z := v211080) (L' := [(4, vI v211080), (6, vI v211080), (5, vI v211013), (0, .ref r0), (1, vI a1), (2, vI a2)]) rfl rfl rfl ?_)
                refine wp_of e279 c279_106 (rw_iinc (pc' := 109) (z := v211013) (L' := [(5, vI (v211013 + 1)), (4, vI v211080), (6, vI v211080), (0, .ref r0), (1, vI a1), (2, vI a2)]) rfl rfl rfl rfl ?_)
                refine wp_of e279 c279_109 (rw_goto (p1 := 31) (by decide) ?_)
                exact wp_lc (ks := [5, 4, 6, 0, 1, 2]) (wl_c rfl (wl_c rfl (wl_c rfl (wl_c rfl (wl_c rfl wl_n))))) rfl (by decide) (ih211012 _ (by omega) (v211013 + 1) v211080 H211050 w211054 f211057 ⟨by omega, by omega⟩ ⟨by omega, by omega⟩ rfl)
    exact wp_lc (ks := [5, 4, 3, 0, 1, 2]) (wl_c rfl (wl_c rfl (wl_c rfl (wl_c rfl (wl_c rfl wl_n))))) rfl (by decide) (lp211010 _ 0 0 H210599 w210603 wfr.rf ⟨by omega, by omega⟩ ⟨by omega, by omega⟩ rfl)
  · refine wp_of e279 c279_19 (rw_aload_n (pc' := 20) (v := .ref r0) rfl rfl rfl ?_)
    refine wp_of e279 c279_20 (rw_iload_n (pc' := 21) (z := z210609) rfl rfl ?_)
    refine wp_of e279 c279_21 (xc_V (pc' := 24) (r := r0) (as := [vI z210609]) (st := []) (lm_9_490) rfl rfl (Nat.le_of_ble_eq_true rfl) w210603 g0 sh_42 (by decide) rfl (by decide) (s_281 w210603 g0 ⟨by omega, by omega⟩) (fun R211087 T211088 H211089 p211090 => ?_))
    obtain ⟨e211091, w211093, f211094, z211095, e211092, b211096⟩ := p211090
    subst e211091
    subst e211092
    have f211097 := f210611.tr f211094 rfl
    show wp _ _ 279 24 [(3, vI z210609), (0, .ref r0), (1, vI a1), (2, vI a2)] [vI z211095] _ H211089 _
    have k211098 : wKI H211089 r0 = wKI H210599 r0 := (wKI_fr w210603 g0 f211094 rfl)
    exact wp_ireturn e279 c279_24 rfl ⟨rfl, w211093, f211097, z211095, rfl, ⟨by omega, by omega⟩, by omega⟩
/-! StrikeAwakeModel.nothing()I -/
theorem e282 : wq_en 282 = some (9, 5, false, some FieldType.int) := rfl
theorem c282_0 : mc_cd 282 0 = some (.aload_n 0, 1) := by decide +kernel
theorem c282_1 : mc_cd 282 1 = some (.iconst 0, 1) := by decide +kernel
theorem c282_2 : mc_cd 282 2 = some (.putfield 48, 3) := by decide +kernel
theorem c282_5 : mc_cd 282 5 = some (.aload_n 0, 1) := by decide +kernel
theorem c282_6 : mc_cd 282 6 = some (.aload_n 0, 1) := by decide +kernel
theorem c282_7 : mc_cd 282 7 = some (.getfield 337, 3) := by decide +kernel
theorem c282_10 : mc_cd 282 10 = some (.ifnull 7, 3) := by decide +kernel
theorem c282_13 : mc_cd 282 13 = some (.iconst 1, 1) := by decide +kernel
theorem c282_14 : mc_cd 282 14 = some (.goto 4, 3) := by decide +kernel
theorem c282_17 : mc_cd 282 17 = some (.iconst 0, 1) := by decide +kernel
theorem c282_18 : mc_cd 282 18 = some (.invokevirtual 433, 3) := by decide +kernel
theorem c282_21 : mc_cd 282 21 = some (.istore_n 1, 1) := by decide +kernel
theorem c282_22 : mc_cd 282 22 = some (.iload_n 1, 1) := by decide +kernel
theorem c282_23 : mc_cd 282 23 = some (.ifCond .le 9, 3) := by decide +kernel
theorem c282_26 : mc_cd 282 26 = some (.aload_n 0, 1) := by decide +kernel
theorem c282_27 : mc_cd 282 27 = some (.iload_n 1, 1) := by decide +kernel
theorem c282_28 : mc_cd 282 28 = some (.invokevirtual 54, 3) := by decide +kernel
theorem c282_31 : mc_cd 282 31 = some (.ireturn, 1) := by decide +kernel
theorem c282_32 : mc_cd 282 32 = some (.iconst 0, 1) := by decide +kernel
theorem c282_33 : mc_cd 282 33 = some (.istore_n 2, 1) := by decide +kernel
theorem c282_34 : mc_cd 282 34 = some (.iconst 0, 1) := by decide +kernel
theorem c282_35 : mc_cd 282 35 = some (.istore_n 3, 1) := by decide +kernel
theorem c282_36 : mc_cd 282 36 = some (.iload_n 3, 1) := by decide +kernel
theorem c282_37 : mc_cd 282 37 = some (.i2l, 1) := by decide +kernel
theorem c282_38 : mc_cd 282 38 = some (.aload_n 0, 1) := by decide +kernel
theorem c282_39 : mc_cd 282 39 = some (.invokevirtual 376, 3) := by decide +kernel
theorem c282_42 : mc_cd 282 42 = some (.lcmp, 1) := by decide +kernel
theorem c282_43 : mc_cd 282 43 = some (.ifCond .ge 73, 3) := by decide +kernel
theorem c282_46 : mc_cd 282 46 = some (.aload_n 0, 1) := by decide +kernel
theorem c282_47 : mc_cd 282 47 = some (.iload_n 3, 1) := by decide +kernel
theorem c282_48 : mc_cd 282 48 = some (.invokevirtual 425, 3) := by decide +kernel
theorem c282_51 : mc_cd 282 51 = some (.aload_n 0, 1) := by decide +kernel
theorem c282_52 : mc_cd 282 52 = some (.aload_n 0, 1) := by decide +kernel
theorem c282_53 : mc_cd 282 53 = some (.getfield 39, 3) := by decide +kernel
theorem c282_56 : mc_cd 282 56 = some (.invokevirtual 393, 3) := by decide +kernel
theorem c282_59 : mc_cd 282 59 = some (.ifCond .eq 6, 3) := by decide +kernel
theorem c282_62 : mc_cd 282 62 = some (.goto 48, 3) := by decide +kernel
theorem c282_65 : mc_cd 282 65 = some (.iconst 0, 1) := by decide +kernel
theorem c282_66 : mc_cd 282 66 = some (.istore 4, 2) := by decide +kernel
theorem c282_68 : mc_cd 282 68 = some (.iload 4, 2) := by decide +kernel
theorem c282_70 : mc_cd 282 70 = some (.aload_n 0, 1) := by decide +kernel
theorem c282_71 : mc_cd 282 71 = some (.getfield 337, 3) := by decide +kernel
theorem c282_74 : mc_cd 282 74 = some (.getfield 185, 3) := by decide +kernel
theorem c282_77 : mc_cd 282 77 = some (.if_icmp .ge 33, 3) := by decide +kernel
theorem c282_80 : mc_cd 282 80 = some (.iload_n 2, 1) := by decide +kernel
theorem c282_81 : mc_cd 282 81 = some (.aload_n 0, 1) := by decide +kernel
theorem c282_82 : mc_cd 282 82 = some (.aload_n 0, 1) := by decide +kernel
theorem c282_83 : mc_cd 282 83 = some (.getfield 39, 3) := by decide +kernel
theorem c282_86 : mc_cd 282 86 = some (.iload 4, 2) := by decide +kernel
theorem c282_88 : mc_cd 282 88 = some (.invokevirtual 386, 3) := by decide +kernel
theorem c282_91 : mc_cd 282 91 = some (.ifCond .ne 10, 3) := by decide +kernel
theorem c282_94 : mc_cd 282 94 = some (.iconst 1, 1) := by decide +kernel
theorem c282_95 : mc_cd 282 95 = some (.iload 4, 2) := by decide +kernel
theorem c282_97 : mc_cd 282 97 = some (.ishl, 1) := by decide +kernel
theorem c282_98 : mc_cd 282 98 = some (.goto 4, 3) := by decide +kernel
theorem c282_101 : mc_cd 282 101 = some (.iconst 0, 1) := by decide +kernel
theorem c282_102 : mc_cd 282 102 = some (.ior, 1) := by decide +kernel
theorem c282_103 : mc_cd 282 103 = some (.istore_n 2, 1) := by decide +kernel
theorem c282_104 : mc_cd 282 104 = some (.iinc 4 1, 3) := by decide +kernel
theorem c282_107 : mc_cd 282 107 = some (.goto (-39), 3) := by decide +kernel
theorem c282_110 : mc_cd 282 110 = some (.iinc 3 1, 3) := by decide +kernel
theorem c282_113 : mc_cd 282 113 = some (.goto (-77), 3) := by decide +kernel
theorem c282_116 : mc_cd 282 116 = some (.aload_n 0, 1) := by decide +kernel
theorem c282_117 : mc_cd 282 117 = some (.iload_n 2, 1) := by decide +kernel
theorem c282_118 : mc_cd 282 118 = some (.invokevirtual 58, 3) := by decide +kernel
theorem c282_121 : mc_cd 282 121 = some (.ireturn, 1) := by decide +kernel
abbrev q_282 (r0 : Nat) (T : wq_T) (H : wq_H) : Option Value → wq_T → wq_H → Prop := fun r T' H' => T = T' ∧ WT T H' ∧ wfr [(42, 0), (42, 1), (42, 2), (42, 28), (42, 29), (51, 999), (52, 999)] T H H' ∧ ∃ z : Int, some (vI z) = r ∧ ((-2147483648) ≤ z ∧ z ≤ 2147483647) ∧ (wKI H' r0 = 1)
set_option maxHeartbeats 4000000 in
theorem s_282 {kt : Nat → Option mc_E} {T : wq_T} {H : wq_H} {r0 : Nat} (hW : WT T H) (g0 : T.2.2.2 r0 = some 42) (p0 : wKI H r0 = 1) : wpc kt 8 282 [.ref r0] T H (q_282 r0 T H) := by
  refine wp_enter e282 (Nat.le_of_ble_eq_true rfl) rfl ?_
  have f0 : wfr [(42, 0), (42, 1), (42, 2), (42, 28), (42, 29), (51, 999), (52, 999)] T H H := wfr.rf
  show wp _ _ 282 0 [(0, .ref r0)] [] _ H _
  refine wp_of e282 c282_0 (rw_aload_n (pc' := 1) (v := .ref r0) rfl rfl rfl ?_)
  refine wp_of e282 c282_1 (rw_iconst (pc' := 2) rfl ?_)
  refine wp_of e282 c282_2 (xp_I (pc' := 5) lf_9_48 hW g0 sh_42 (by decide) (by decide) ty_42_0 rfl rfl (by omega) (by omega) ⟨by omega, by omega⟩ rfl (fun H213365 e213366 w213367 => ?_))
  have f213368 := f0.put' e213366 g0 rfl
  have k213369 : H213365 r0 0 = 0 := wq_u_s e213366
  refine wp_of e282 c282_5 (rw_aload_n (pc' := 6) (v := .ref r0) rfl rfl rfl ?_)
  refine wp_of e282 c282_6 (rw_aload_n (pc' := 7) (v := .ref r0) rfl rfl rfl ?_)
  refine wp_of e282 c282_7 (xg_O (pc' := 10) lf_9_337 w213367 g0 sh_42 (by decide) (by decide) ty_42_3 rfl rfl (fun q213371 => ?_) (fun r213370 q213371 g213372 => ?_))
  · refine wp_of e282 c282_10 (rw_ifnull_n (p1 := 17) (p2 := 13) (by decide) rfl ?_)
    refine wp_of e282 c282_17 (rw_iconst (pc' := 18) rfl ?_)
    have k213373 : wKI H213365 r0 = wKI H r0 := (wKI_fr hW g0 ((wfr.rf (l := [(42, 0)])).put' e213366 g0 rfl) rfl)
    refine wp_of e282 c282_18 (xc_V (pc' := 21) (r := r0) (as := [vI 0]) (st := []) (lm_9_433) rfl rfl (Nat.le_of_ble_eq_true rfl) w213367 g0 sh_42 (by decide) rfl (by decide) (s_241 w213367 g0 ⟨by omega, by omega⟩ (by omega) (by omega)) (fun R213374 T213375 H213376 p213377 => ?_))
    obtain ⟨e213378, w213380, f213381, z213386, e213379, b213387, p213382, p213383, p213384, p213385⟩ := p213377
    subst e213378
    subst e213379
    have f213388 := f213368.tr f213381 rfl
    show wp _ _ 282 21 [(0, .ref r0)] [vI z213386] _ H213376 _
    refine wp_of e282 c282_21 (rw_istore_n (pc' := 22) (z := z213386) (L' := [(1, vI z213386), (0, .ref r0)]) rfl rfl rfl ?_)
    refine wp_of e282 c282_22 (rw_iload_n (pc' := 23) (z := z213386) rfl rfl ?_)
    refine wp_of e282 c282_23 (rw_if_le (p1 := 32) (p2 := 26) (by decide) rfl ⟨by omega, by omega⟩ (fun c213389 => ?_) (fun c213389 => ?_))
    · exfalso
      omega
    · refine wp_of e282 c282_26 (rw_aload_n (pc' := 27) (v := .ref r0) rfl rfl rfl ?_)
      refine wp_of e282 c282_27 (rw_iload_n (pc' := 28) (z := z213386) rfl rfl ?_)
      refine wp_of e282 c282_28 (xc_V (pc' := 31) (r := r0) (as := [vI z213386]) (st := []) (lm_9_54) rfl rfl (Nat.le_of_ble_eq_true rfl) w213380 g0 sh_42 (by decide) rfl (by decide) (s_170 w213380 g0 ⟨by omega, by omega⟩) (fun R213390 T213391 H213392 p213393 => ?_))
      obtain ⟨e213394, w213396, f213397, z213398, e213395, b213399⟩ := p213393
      subst e213394
      subst e213395
      have f213400 := f213388.tr f213397 rfl
      show wp _ _ 282 31 [(1, vI z213386), (0, .ref r0)] [vI z213398] _ H213392 _
      have k213401 : wKI H213392 r0 = wKI H213376 r0 := (wKI_fr w213380 g0 f213397 rfl)
      exact wp_ireturn e282 c282_31 rfl ⟨rfl, w213396, f213400, z213398, rfl, ⟨by omega, by omega⟩, by omega⟩
  · refine wp_of e282 c282_10 (rw_ifnull_r (p1 := 17) (p2 := 13) (by decide) rfl ?_)
    refine wp_of e282 c282_13 (rw_iconst (pc' := 14) rfl ?_)
    refine wp_of e282 c282_14 (rw_goto (p1 := 18) (by decide) ?_)
    have k213402 : wKI H213365 r0 = wKI H r0 := (wKI_fr hW g0 ((wfr.rf (l := [(42, 0)])).put' e213366 g0 rfl) rfl)
    refine wp_of e282 c282_18 (xc_V (pc' := 21) (r := r0) (as := [vI 1]) (st := []) (lm_9_433) rfl rfl (Nat.le_of_ble_eq_true rfl) w213367 g0 sh_42 (by decide) rfl (by decide) (s_241 w213367 g0 ⟨by omega, by omega⟩ (by omega) (by omega)) (fun R213403 T213404 H213405 p213406 => ?_))
    obtain ⟨e213407, w213409, f213410, z213415, e213408, b213416, p213411, p213412, p213413, p213414⟩ := p213406
    subst e213407
    subst e213408
    have f213417 := f213368.tr f213410 rfl
    show wp _ _ 282 21 [(0, .ref r0)] [vI z213415] _ H213405 _
    refine wp_of e282 c282_21 (rw_istore_n (pc' := 22) (z := z213415) (L' := [(1, vI z213415), (0, .ref r0)]) rfl rfl rfl ?_)
    refine wp_of e282 c282_22 (rw_iload_n (pc' := 23) (z := z213415) rfl rfl ?_)
    refine wp_of e282 c282_23 (rw_if_le (p1 := 32) (p2 := 26) (by decide) rfl ⟨by omega, by omega⟩ (fun c213418 => ?_) (fun c213418 => ?_))
    · refine wp_of e282 c282_32 (rw_iconst (pc' := 33) rfl ?_)
      refine wp_of e282 c282_33 (rw_istore_n (pc' := 34) (z := 0) (L' := [(2, vI 0), (1, vI z213415), (0, .ref r0)]) rfl rfl rfl ?_)
      refine wp_of e282 c282_34 (rw_iconst (pc' := 35) rfl ?_)
      refine wp_of e282 c282_35 (rw_istore_n (pc' := 36) (z := 0) (L' := [(3, vI 0), (2, vI 0), (1, vI z213415), (0, .ref r0)]) rfl rfl rfl ?_)
      have lp215363 : ∀ (n215364 : Nat) (v215366 : Int) (v215367 : Int) (H215368 : wq_H), WT T H215368 → wfr [(51, 999)] T H213405 H215368 → (0 ≤ v215366 ∧ v215366 ≤ 20000) → (0 ≤ v215367 ∧ v215367 ≤ 16777215) → (20000 - v215366).toNat = n215364 → wp kt 7 282 36 [(3, vI v215366), (2, vI v215367), (0, .ref r0)] [] T H215368 (q_282 r0 T H) := by
        intro n215364
        induction n215364 using Nat.strongRecOn with
        | _ n215364 ih215365 =>
          intro v215366 v215367 H215368 w215369 f215370 b215371 b215372 m215373
          have f215374 := f213417.tr f215370 rfl
          refine wp_of e282 c282_36 (rw_iload_n (pc' := 37) (z := v215366) rfl rfl ?_)
          refine wp_of e282 c282_37 (rw_i2l (pc' := 38) rfl ⟨by omega, by omega⟩ ?_)
          refine wp_of e282 c282_38 (rw_aload_n (pc' := 39) (v := .ref r0) rfl rfl rfl ?_)
          have k215375 : wLM H215368 r0 = wLM H213405 r0 := (wLM_fr w213409 g0 f215370 rfl)
          have k215376 : H215368 r0 3 = H213365 r0 3 := ((f215370 r0 3 _ g0 rfl).trans (f213410 r0 3 _ g0 rfl))
          have q215377 : H215368 r0 3 = (r213370 : Int) := k215376.trans q213371
          refine wp_of e282 c282_39 (xc_V (pc' := 42) (r := r0) (as := []) (st := [vL v215366]) (lm_9_376) rfl rfl (Nat.le_of_ble_eq_true rfl) w215369 g0 sh_42 (by decide) rfl (by decide) (s_220 w215369 g0 q215377 g213372) (fun R215378 T215379 H215380 p215381 => ?_))
          obtain ⟨e215382, e215384, z215386, e215383, b215387, p215385⟩ := p215381
          subst e215382
          subst e215383
          subst e215384
          show wp _ _ 282 42 [(3, vI v215366), (2, vI v215367), (0, .ref r0)] [vL z215386, vL v215366] _ H215368 _
          refine wp_of e282 c282_42 (rw_lcmp (pc' := 43) rfl ⟨by omega, by omega⟩ ⟨by omega, by omega⟩ ?_)
          have b215388 := wq_cmp_b v215366 z215386
          refine wp_of e282 c282_43 (rw_if_ge (p1 := 116) (p2 := 46) (by decide) rfl ⟨by omega, by omega⟩ (fun c215389 => ?_) (fun c215389 => ?_))
          · refine wp_of e282 c282_116 (rw_aload_n (pc' := 117) (v := .ref r0) rfl rfl rfl ?_)
            refine wp_of e282 c282_117 (rw_iload_n (pc' := 118) (z := v215367) rfl rfl ?_)
            refine wp_of e282 c282_118 (xc_V (pc' := 121) (r := r0) (as := [vI v215367]) (st := []) (lm_9_58) rfl rfl (Nat.le_of_ble_eq_true rfl) w215369 g0 sh_42 (by decide) rfl (by decide) (s_209 w215369 g0 ⟨by omega, by omega⟩) (fun R215390 T215391 H215392 p215393 => ?_))
            obtain ⟨e215394, w215396, f215397, z215398, e215395, b215399⟩ := p215393
            subst e215394
            subst e215395
            have f215400 := f215374.tr f215397 rfl
            show wp _ _ 282 121 [(3, vI v215366), (2, vI v215367), (0, .ref r0)] [vI z215398] _ H215392 _
            have k215401 : wKI H215392 r0 = wKI H213405 r0 := ((wKI_fr w215369 g0 f215397 rfl).trans (wKI_fr w213409 g0 f215370 rfl))
            exact wp_ireturn e282 c282_121 rfl ⟨rfl, w215396, f215400, z215398, rfl, ⟨by omega, by omega⟩, by omega⟩
          · refine wp_of e282 c282_46 (rw_aload_n (pc' := 47) (v := .ref r0) rfl rfl rfl ?_)
            refine wp_of e282 c282_47 (rw_iload_n (pc' := 48) (z := v215366) rfl rfl ?_)
            refine wp_of e282 c282_48 (xc_V (pc' := 51) (r := r0) (as := [vI v215366]) (st := []) (lm_9_425) rfl rfl (Nat.le_of_ble_eq_true rfl) w215369 g0 sh_42 (by decide) rfl (by decide) (s_243 w215369 g0 ⟨by omega, by omega⟩ q215377 g213372 (by omega)) (fun R215402 T215403 H215404 p215405 => ?_))
            obtain ⟨e215406, w215408, f215409, e215407⟩ := p215405
            subst e215406
            subst e215407
            have f215410 := f215374.tr f215409 rfl
            have f215411 := f215370.tr f215409 rfl
            show wp _ _ 282 51 [(3, vI v215366), (2, vI v215367), (0, .ref r0)] [] _ H215404 _
            refine wp_of e282 c282_51 (rw_aload_n (pc' := 52) (v := .ref r0) rfl rfl rfl ?_)
            refine wp_of e282 c282_52 (rw_aload_n (pc' := 53) (v := .ref r0) rfl rfl rfl ?_)
            refine wp_of e282 c282_53 (xg_R (pc' := 56) lf_9_39 w215408 g0 sh_42 (by decide) (by decide) ty_42_27 rfl rfl (fun r215412 q215413 g215414 => ?_))
            have k215415 : H215404 r0 3 = H215368 r0 3 := (f215409 r0 3 _ g0 rfl)
            have q215416 : H215404 r0 3 = (r213370 : Int) := k215415.trans q215377
            refine wp_of e282 c282_56 (xc_V (pc' := 59) (r := r0) (as := [.ref r215412]) (st := []) (lm_9_393) rfl rfl (Nat.le_of_ble_eq_true rfl) w215408 g0 sh_42 (by decide) rfl (by decide) (s_235_m_lot w215408 g0 g215414 q215416 g213372) (fun R215417 T215418 H215419 p215420 => ?_))
            obtain ⟨e215421, e215423, z215424, e215422, b215425⟩ := p215420
            subst e215421
            subst e215422
            subst e215423
            show wp _ _ 282 59 [(3, vI v215366), (2, vI v215367), (0, .ref r0)] [vI z215424] _ H215404 _
            refine wp_of e282 c282_59 (rw_if_eq (p1 := 65) (p2 := 62) (by decide) rfl ⟨by omega, by omega⟩ (fun c215426 => ?_) (fun c215426 => ?_))
            · refine wp_of e282 c282_65 (rw_iconst (pc' := 66) rfl ?_)
              refine wp_of e282 c282_66 (rw_istore (pc' := 68) (z := 0) (L' := [(4, vI 0), (3, vI v215366), (2, vI v215367), (0, .ref r0)]) rfl rfl rfl ?_)
              have lp215611 : ∀ (n215612 : Nat) (v215614 : Int) (v215615 : Int), (0 ≤ v215614 ∧ v215614 ≤ 24) → (0 ≤ v215615 ∧ v215615 ≤ 16777215) → (24 - v215614).toNat = n215612 → wp kt 7 282 68 [(4, vI v215614), (2, vI v215615), (3, vI v215366), (0, .ref r0)] [] T H215404 (q_282 r0 T H) := by
                intro n215612
                induction n215612 using Nat.strongRecOn with
                | _ n215612 ih215613 =>
                  intro v215614 v215615 b215618 b215619 m215620
                  refine wp_of e282 c282_68 (rw_iload (pc' := 70) (z := v215614) rfl rfl ?_)
                  refine wp_of e282 c282_70 (rw_aload_n (pc' := 71) (v := .ref r0) rfl rfl rfl ?_)
                  refine wp_of e282 c282_71 (xg_K (pc' := 74) lf_9_337 w215408 g0 sh_42 (by decide) (by decide) rfl q215416 rfl ?_)
                  refine wp_of e282 c282_74 (xg_I (pc' := 77) lf_9_185 w215408 g213372 sh_54 (by decide) (by decide) ty_54_0 rfl rfl (fun b215621 b215622 => ?_))
                  refine wp_of e282 c282_77 (rw_icmp_ge (p1 := 110) (p2 := 80) (by decide) rfl ⟨by omega, by omega⟩ ⟨by omega, by omega⟩ (fun c215623 => ?_) (fun c215623 => ?_))
                  · refine wp_of e282 c282_110 (rw_iinc (pc' := 113) (z := v215366) (L' := [(3, vI (v215366 + 1)), (4, vI v215614), (2, vI v215615), (0, .ref r0)]) rfl rfl rfl rfl ?_)
                    refine wp_of e282 c282_113 (rw_goto (p1 := 36) (by decide) ?_)
                    exact wp_lc (ks := [3, 4, 2, 0]) (wl_c rfl (wl_c rfl (wl_c rfl wl_n))) rfl (by decide) (ih215365 _ (by omega) (v215366 + 1) v215615 H215404 w215408 f215411 ⟨by omega, by omega⟩ ⟨by omega, by omega⟩ rfl)
                  · refine wp_of e282 c282_80 (rw_iload_n (pc' := 81) (z := v215615) rfl rfl ?_)
                    refine wp_of e282 c282_81 (rw_aload_n (pc' := 82) (v := .ref r0) rfl rfl rfl ?_)
                    refine wp_of e282 c282_82 (rw_aload_n (pc' := 83) (v := .ref r0) rfl rfl rfl ?_)
                    refine wp_of e282 c282_83 (xg_K (pc' := 86) lf_9_39 w215408 g0 sh_42 (by decide) (by decide) rfl q215413 rfl ?_)
                    refine wp_of e282 c282_86 (rw_iload (pc' := 88) (z := v215614) rfl rfl ?_)
                    refine wp_of e282 c282_88 (xc_V (pc' := 91) (r := r0) (as := [.ref r215412, vI v215614]) (st := [vI v215615]) (lm_9_386) rfl rfl (Nat.le_of_ble_eq_true rfl) w215408 g0 sh_42 (by decide) rfl (by decide) (s_228_m_lot w215408 g0 g215414 ⟨by omega, by omega⟩ q215416 g213372) (fun R215624 T215625 H215626 p215627 => ?_))
                    obtain ⟨e215628, e215630, z215631, e215629, b215632⟩ := p215627
                    subst e215628
                    subst e215629
                    subst e215630
                    show wp _ _ 282 91 [(4, vI v215614), (2, vI v215615), (3, vI v215366), (0, .ref r0)] [vI z215631, vI v215615] _ H215404 _
                    refine wp_of e282 c282_91 (rw_if_ne (p1 := 101) (p2 := 94) (by decide) rfl ⟨by omega, by omega⟩ (fun c215633 => ?_) (fun c215633 => ?_))
                    · refine wp_of e282 c282_101 (rw_iconst (pc' := 102) rfl ?_)
                      refine wp_of e282 c282_102 (rw_ior (pc' := 103) rfl ?_)
                      obtain ⟨v215634, e215635⟩ : ∃ x : Int, x = wq_or v215615 0 := ⟨_, rfl⟩
                      rw [← e215635]
                      have b215636 : 0 ≤ v215634 ∧ v215634 ≤ 16777215 := by
                        rw [e215635]
                        exact wq_or_24 ⟨by omega, by omega⟩ ⟨by omega, by omega⟩
                      refine wp_of e282 c282_103 (rw_istore_n (pc' := 104) (z := v215634) (L' := [(2, vI v215634), (4, vI v215614), (3, vI v215366), (0, .ref r0)]) rfl rfl rfl ?_)
                      refine wp_of e282 c282_104 (rw_iinc (pc' := 107) (z := v215614) (L' := [(4, vI (v215614 + 1)), (2, vI v215634), (3, vI v215366), (0, .ref r0)]) rfl rfl rfl rfl ?_)
                      refine wp_of e282 c282_107 (rw_goto (p1 := 68) (by decide) ?_)
                      exact wp_lc (ks := [4, 2, 3, 0]) (wl_c rfl (wl_c rfl (wl_c rfl (wl_c rfl wl_n)))) rfl (by decide) (ih215613 _ (by omega) (v215614 + 1) v215634 ⟨by omega, by omega⟩ ⟨by omega, by omega⟩ rfl)
                    · refine wp_of e282 c282_94 (rw_iconst (pc' := 95) rfl ?_)
                      refine wp_of e282 c282_95 (rw_iload (pc' := 97) (z := v215614) rfl rfl ?_)
                      refine wp_of e282 c282_97 (rw_ishl (pc' := 98) rfl ?_)
                      obtain ⟨v215637, e215638⟩ : ∃ x : Int, x = wq_shl 1 v215614 := ⟨_, rfl⟩
                      rw [← e215638]
                      have b215639 : 1 ≤ v215637 ∧ v215637 ≤ 8388608 := by
                        rw [e215638]
                        exact wq_shl1_24 ⟨by omega, by omega⟩
                      refine wp_of e282 c282_98 (rw_goto (p1 := 102) (by decide) ?_)
                      refine wp_of e282 c282_102 (rw_ior (pc' := 103) rfl ?_)
                      obtain ⟨v215640, e215641⟩ : ∃ x : Int, x = wq_or v215615 v215637 := ⟨_, rfl⟩
                      rw [← e215641]
                      have b215642 : 0 ≤ v215640 ∧ v215640 ≤ 16777215 := by
                        rw [e215641]
                        exact wq_or_24 ⟨by omega, by omega⟩ ⟨by omega, by omega⟩
                      refine wp_of e282 c282_103 (rw_istore_n (pc' := 104) (z := v215640) (L' := [(2, vI v215640), (4, vI v215614), (3, vI v215366), (0, .ref r0)]) rfl rfl rfl ?_)
                      refine wp_of e282 c282_104 (rw_iinc (pc' := 107) (z := v215614) (L' := [(4, vI (v215614 + 1)), (2, vI v215640), (3, vI v215366), (0, .ref r0)]) rfl rfl rfl rfl ?_)
                      refine wp_of e282 c282_107 (rw_goto (p1 := 68) (by decide) ?_)
                      exact wp_lc (ks := [4, 2, 3, 0]) (wl_c rfl (wl_c rfl (wl_c rfl (wl_c rfl wl_n)))) rfl (by decide) (ih215613 _ (by omega) (v215614 + 1) v215640 ⟨by omega, by omega⟩ ⟨by omega, by omega⟩ rfl)
              exact wp_lc (ks := [4, 3, 2, 0]) (wl_c rfl (wl_c rfl (wl_c rfl (wl_c rfl wl_n)))) rfl (by decide) (lp215611 _ 0 v215367 ⟨by omega, by omega⟩ ⟨by omega, by omega⟩ rfl)
            · refine wp_of e282 c282_62 (rw_goto (p1 := 110) (by decide) ?_)
              refine wp_of e282 c282_110 (rw_iinc (pc' := 113) (z := v215366) (L' := [(3, vI (v215366 + 1)), (2, vI v215367), (0, .ref r0)]) rfl rfl rfl rfl ?_)
              refine wp_of e282 c282_113 (rw_goto (p1 := 36) (by decide) ?_)
              exact wp_lc (ks := [3, 2, 0]) (wl_c rfl (wl_c rfl (wl_c rfl wl_n))) rfl (by decide) (ih215365 _ (by omega) (v215366 + 1) v215367 H215404 w215408 f215411 ⟨by omega, by omega⟩ ⟨by omega, by omega⟩ rfl)
      exact wp_lc (ks := [3, 2, 1, 0]) (wl_c rfl (wl_c rfl (wl_c rfl wl_n))) rfl (by decide) (lp215363 _ 0 0 H213405 w213409 wfr.rf ⟨by omega, by omega⟩ ⟨by omega, by omega⟩ rfl)
    · refine wp_of e282 c282_26 (rw_aload_n (pc' := 27) (v := .ref r0) rfl rfl rfl ?_)
      refine wp_of e282 c282_27 (rw_iload_n (pc' := 28) (z := z213415) rfl rfl ?_)
      refine wp_of e282 c282_28 (xc_V (pc' := 31) (r := r0) (as := [vI z213415]) (st := []) (lm_9_54) rfl rfl (Nat.le_of_ble_eq_true rfl) w213409 g0 sh_42 (by decide) rfl (by decide) (s_170 w213409 g0 ⟨by omega, by omega⟩) (fun R215643 T215644 H215645 p215646 => ?_))
      obtain ⟨e215647, w215649, f215650, z215651, e215648, b215652⟩ := p215646
      subst e215647
      subst e215648
      have f215653 := f213417.tr f215650 rfl
      show wp _ _ 282 31 [(1, vI z213415), (0, .ref r0)] [vI z215651] _ H215645 _
      have k215654 : wKI H215645 r0 = wKI H213405 r0 := (wKI_fr w213409 g0 f215650 rfl)
      exact wp_ireturn e282 c282_31 rfl ⟨rfl, w215649, f215653, z215651, rfl, ⟨by omega, by omega⟩, by omega⟩
/-! StrikeAwakeModel.keep()I -/
theorem e283 : wq_en 283 = some (9, 5, false, some FieldType.int) := rfl
theorem c283_0 : mc_cd 283 0 = some (.aload_n 0, 1) := by decide +kernel
theorem c283_1 : mc_cd 283 1 = some (.iconst 0, 1) := by decide +kernel
theorem c283_2 : mc_cd 283 2 = some (.putfield 48, 3) := by decide +kernel
theorem c283_5 : mc_cd 283 5 = some (.aload_n 0, 1) := by decide +kernel
theorem c283_6 : mc_cd 283 6 = some (.getfield 337, 3) := by decide +kernel
theorem c283_9 : mc_cd 283 9 = some (.ifnonnull 9, 3) := by decide +kernel
theorem c283_12 : mc_cd 283 12 = some (.aload_n 0, 1) := by decide +kernel
theorem c283_13 : mc_cd 283 13 = some (.iconst 1, 1) := by decide +kernel
theorem c283_14 : mc_cd 283 14 = some (.invokevirtual 54, 3) := by decide +kernel
theorem c283_17 : mc_cd 283 17 = some (.ireturn, 1) := by decide +kernel
theorem c283_18 : mc_cd 283 18 = some (.bipush (-2), 2) := by decide +kernel
theorem c283_20 : mc_cd 283 20 = some (.istore_n 1, 1) := by decide +kernel
theorem c283_21 : mc_cd 283 21 = some (.iconst 0, 1) := by decide +kernel
theorem c283_22 : mc_cd 283 22 = some (.istore_n 2, 1) := by decide +kernel
theorem c283_23 : mc_cd 283 23 = some (.iload_n 2, 1) := by decide +kernel
theorem c283_24 : mc_cd 283 24 = some (.iconst 1, 1) := by decide +kernel
theorem c283_25 : mc_cd 283 25 = some (.aload_n 0, 1) := by decide +kernel
theorem c283_26 : mc_cd 283 26 = some (.getfield 337, 3) := by decide +kernel
theorem c283_29 : mc_cd 283 29 = some (.getfield 321, 3) := by decide +kernel
theorem c283_32 : mc_cd 283 32 = some (.ishl, 1) := by decide +kernel
theorem c283_33 : mc_cd 283 33 = some (.if_icmp .ge 88, 3) := by decide +kernel
theorem c283_36 : mc_cd 283 36 = some (.iconst 0, 1) := by decide +kernel
theorem c283_37 : mc_cd 283 37 = some (.istore_n 3, 1) := by decide +kernel
theorem c283_38 : mc_cd 283 38 = some (.iconst 0, 1) := by decide +kernel
theorem c283_39 : mc_cd 283 39 = some (.istore 4, 2) := by decide +kernel
theorem c283_41 : mc_cd 283 41 = some (.iload 4, 2) := by decide +kernel
theorem c283_43 : mc_cd 283 43 = some (.aload_n 0, 1) := by decide +kernel
theorem c283_44 : mc_cd 283 44 = some (.getfield 337, 3) := by decide +kernel
theorem c283_47 : mc_cd 283 47 = some (.getfield 321, 3) := by decide +kernel
theorem c283_50 : mc_cd 283 50 = some (.if_icmp .ge 35, 3) := by decide +kernel
theorem c283_53 : mc_cd 283 53 = some (.iload_n 3, 1) := by decide +kernel
theorem c283_54 : mc_cd 283 54 = some (.iload_n 2, 1) := by decide +kernel
theorem c283_55 : mc_cd 283 55 = some (.iload 4, 2) := by decide +kernel
theorem c283_57 : mc_cd 283 57 = some (.invokestatic 346, 3) := by decide +kernel
theorem c283_60 : mc_cd 283 60 = some (.ifCond .eq 16, 3) := by decide +kernel
theorem c283_63 : mc_cd 283 63 = some (.aload_n 0, 1) := by decide +kernel
theorem c283_64 : mc_cd 283 64 = some (.getfield 337, 3) := by decide +kernel
theorem c283_67 : mc_cd 283 67 = some (.getfield 327, 3) := by decide +kernel
theorem c283_70 : mc_cd 283 70 = some (.iload 4, 2) := by decide +kernel
theorem c283_72 : mc_cd 283 72 = some (.iaload, 1) := by decide +kernel
theorem c283_73 : mc_cd 283 73 = some (.goto 4, 3) := by decide +kernel
theorem c283_76 : mc_cd 283 76 = some (.iconst 0, 1) := by decide +kernel
theorem c283_77 : mc_cd 283 77 = some (.ior, 1) := by decide +kernel
theorem c283_78 : mc_cd 283 78 = some (.istore_n 3, 1) := by decide +kernel
theorem c283_79 : mc_cd 283 79 = some (.iinc 4 1, 3) := by decide +kernel
theorem c283_82 : mc_cd 283 82 = some (.goto (-41), 3) := by decide +kernel
theorem c283_85 : mc_cd 283 85 = some (.aload_n 0, 1) := by decide +kernel
theorem c283_86 : mc_cd 283 86 = some (.getfield 343, 3) := by decide +kernel
theorem c283_89 : mc_cd 283 89 = some (.iload_n 3, 1) := by decide +kernel
theorem c283_90 : mc_cd 283 90 = some (.iconst (-1), 1) := by decide +kernel
theorem c283_91 : mc_cd 283 91 = some (.ixor, 1) := by decide +kernel
theorem c283_92 : mc_cd 283 92 = some (.iand, 1) := by decide +kernel
theorem c283_93 : mc_cd 283 93 = some (.ifCond .ne 22, 3) := by decide +kernel
theorem c283_96 : mc_cd 283 96 = some (.iload_n 1, 1) := by decide +kernel
theorem c283_97 : mc_cd 283 97 = some (.bipush (-2), 2) := by decide +kernel
theorem c283_99 : mc_cd 283 99 = some (.if_icmp .eq 14, 3) := by decide +kernel
theorem c283_102 : mc_cd 283 102 = some (.iload_n 2, 1) := by decide +kernel
theorem c283_103 : mc_cd 283 103 = some (.invokestatic 462, 3) := by decide +kernel
theorem c283_106 : mc_cd 283 106 = some (.iload_n 1, 1) := by decide +kernel
theorem c283_107 : mc_cd 283 107 = some (.invokestatic 462, 3) := by decide +kernel
theorem c283_110 : mc_cd 283 110 = some (.if_icmp .ge 5, 3) := by decide +kernel
theorem c283_113 : mc_cd 283 113 = some (.iload_n 2, 1) := by decide +kernel
theorem c283_114 : mc_cd 283 114 = some (.istore_n 1, 1) := by decide +kernel
theorem c283_115 : mc_cd 283 115 = some (.iinc 2 1, 3) := by decide +kernel
theorem c283_118 : mc_cd 283 118 = some (.goto (-95), 3) := by decide +kernel
theorem c283_121 : mc_cd 283 121 = some (.aload_n 0, 1) := by decide +kernel
theorem c283_122 : mc_cd 283 122 = some (.iload_n 1, 1) := by decide +kernel
theorem c283_123 : mc_cd 283 123 = some (.invokevirtual 58, 3) := by decide +kernel
theorem c283_126 : mc_cd 283 126 = some (.ireturn, 1) := by decide +kernel
abbrev q_283 (r0 : Nat) (T : wq_T) (H : wq_H) : Option Value → wq_T → wq_H → Prop := fun r T' H' => T = T' ∧ WT T H' ∧ wfr [(42, 0), (42, 1), (42, 2)] T H H' ∧ ∃ z : Int, some (vI z) = r ∧ ((-2147483648) ≤ z ∧ z ≤ 2147483647) ∧ (wKI H' r0 = 1)
set_option maxHeartbeats 4000000 in
theorem s_283 {kt : Nat → Option mc_E} {T : wq_T} {H : wq_H} {r0 : Nat} (hW : WT T H) (g0 : T.2.2.2 r0 = some 42) (p0 : wKI H r0 = 1) : wpc kt 2 283 [.ref r0] T H (q_283 r0 T H) := by
  refine wp_enter e283 (Nat.le_of_ble_eq_true rfl) rfl ?_
  have f0 : wfr [(42, 0), (42, 1), (42, 2)] T H H := wfr.rf
  show wp _ _ 283 0 [(0, .ref r0)] [] _ H _
  refine wp_of e283 c283_0 (rw_aload_n (pc' := 1) (v := .ref r0) rfl rfl rfl ?_)
  refine wp_of e283 c283_1 (rw_iconst (pc' := 2) rfl ?_)
  refine wp_of e283 c283_2 (xp_I (pc' := 5) lf_9_48 hW g0 sh_42 (by decide) (by decide) ty_42_0 rfl rfl (by omega) (by omega) ⟨by omega, by omega⟩ rfl (fun H217755 e217756 w217757 => ?_))
  have f217758 := f0.put' e217756 g0 rfl
  have k217759 : H217755 r0 0 = 0 := wq_u_s e217756
  refine wp_of e283 c283_5 (rw_aload_n (pc' := 6) (v := .ref r0) rfl rfl rfl ?_)
  refine wp_of e283 c283_6 (xg_O (pc' := 9) lf_9_337 w217757 g0 sh_42 (by decide) (by decide) ty_42_3 rfl rfl (fun q217761 => ?_) (fun r217760 q217761 g217762 => ?_))
  · refine wp_of e283 c283_9 (rw_ifnonnull_n (p1 := 18) (p2 := 12) (by decide) rfl ?_)
    refine wp_of e283 c283_12 (rw_aload_n (pc' := 13) (v := .ref r0) rfl rfl rfl ?_)
    refine wp_of e283 c283_13 (rw_iconst (pc' := 14) rfl ?_)
    refine wp_of e283 c283_14 (xc_V (pc' := 17) (r := r0) (as := [vI 1]) (st := []) (lm_9_54) rfl rfl (Nat.le_of_ble_eq_true rfl) w217757 g0 sh_42 (by decide) rfl (by decide) (s_170 w217757 g0 ⟨by omega, by omega⟩) (fun R217763 T217764 H217765 p217766 => ?_))
    obtain ⟨e217767, w217769, f217770, z217771, e217768, b217772⟩ := p217766
    subst e217767
    subst e217768
    have f217773 := f217758.tr f217770 rfl
    show wp _ _ 283 17 [(0, .ref r0)] [vI z217771] _ H217765 _
    have k217774 : wKI H217765 r0 = wKI H r0 := ((wKI_fr w217757 g0 f217770 rfl).trans (wKI_fr hW g0 ((wfr.rf (l := [(42, 0)])).put' e217756 g0 rfl) rfl))
    exact wp_ireturn e283 c283_17 rfl ⟨rfl, w217769, f217773, z217771, rfl, ⟨by omega, by omega⟩, by omega⟩
  · refine wp_of e283 c283_9 (rw_ifnonnull_r (p1 := 18) (p2 := 12) (by decide) rfl ?_)
    refine wp_of e283 c283_18 (rw_bipush (pc' := 20) (z := -2) rfl (by decide) ?_)
    refine wp_of e283 c283_20 (rw_istore_n (pc' := 21) (z := -2) (L' := [(1, vI (-2)), (0, .ref r0)]) rfl rfl rfl ?_)
    refine wp_of e283 c283_21 (rw_iconst (pc' := 22) rfl ?_)
    refine wp_of e283 c283_22 (rw_istore_n (pc' := 23) (z := 0) (L' := [(2, vI 0), (1, vI (-2)), (0, .ref r0)]) rfl rfl rfl ?_)
    have lp219612 : ∀ (n219613 : Nat) (v219615 : Int) (v219616 : Int), (0 ≤ v219615 ∧ v219615 ≤ 64) → ((-2) ≤ v219616 ∧ v219616 ≤ 2147483647) → (v219616 = -2 ∨ 0 ≤ v219616) → (64 - v219615).toNat = n219613 → wp kt 1 283 23 [(2, vI v219615), (1, vI v219616), (0, .ref r0)] [] T H217755 (q_283 r0 T H) := by
      intro n219613
      induction n219613 using Nat.strongRecOn with
      | _ n219613 ih219614 =>
        intro v219615 v219616 b219619 b219620 x219621 m219622
        refine wp_of e283 c283_23 (rw_iload_n (pc' := 24) (z := v219615) rfl rfl ?_)
        refine wp_of e283 c283_24 (rw_iconst (pc' := 25) rfl ?_)
        refine wp_of e283 c283_25 (rw_aload_n (pc' := 26) (v := .ref r0) rfl rfl rfl ?_)
        refine wp_of e283 c283_26 (xg_K (pc' := 29) lf_9_337 w217757 g0 sh_42 (by decide) (by decide) rfl q217761 rfl ?_)
        refine wp_of e283 c283_29 (xg_I (pc' := 32) lf_9_321 w217757 g217762 sh_54 (by decide) (by decide) ty_54_7 rfl rfl (fun b219623 b219624 => ?_))
        refine wp_of e283 c283_32 (rw_ishl (pc' := 33) rfl ?_)
        obtain ⟨v219625, e219626⟩ : ∃ x : Int, x = wq_shl 1 (H217755 r217760 7) := ⟨_, rfl⟩
        rw [← e219626]
        have b219627 : 1 ≤ v219625 ∧ v219625 ≤ 64 := by
          rw [e219626]
          exact wq_shl1_6 ⟨by omega, by omega⟩
        refine wp_of e283 c283_33 (rw_icmp_ge (p1 := 121) (p2 := 36) (by decide) rfl ⟨by omega, by omega⟩ ⟨by omega, by omega⟩ (fun c219628 => ?_) (fun c219628 => ?_))
        · refine wp_of e283 c283_121 (rw_aload_n (pc' := 122) (v := .ref r0) rfl rfl rfl ?_)
          refine wp_of e283 c283_122 (rw_iload_n (pc' := 123) (z := v219616) rfl rfl ?_)
          refine wp_of e283 c283_123 (xc_V (pc' := 126) (r := r0) (as := [vI v219616]) (st := []) (lm_9_58) rfl rfl (Nat.le_of_ble_eq_true rfl) w217757 g0 sh_42 (by decide) rfl (by decide) (s_209 w217757 g0 ⟨by omega, by omega⟩) (fun R219629 T219630 H219631 p219632 => ?_))
          obtain ⟨e219633, w219635, f219636, z219637, e219634, b219638⟩ := p219632
          subst e219633
          subst e219634
          have f219639 := f217758.tr f219636 rfl
          show wp _ _ 283 126 [(2, vI v219615), (1, vI v219616), (0, .ref r0)] [vI z219637] _ H219631 _
          have k219640 : wKI H219631 r0 = wKI H r0 := ((wKI_fr w217757 g0 f219636 rfl).trans (wKI_fr hW g0 ((wfr.rf (l := [(42, 0)])).put' e217756 g0 rfl) rfl))
          exact wp_ireturn e283 c283_126 rfl ⟨rfl, w219635, f219639, z219637, rfl, ⟨by omega, by omega⟩, by omega⟩
        · refine wp_of e283 c283_36 (rw_iconst (pc' := 37) rfl ?_)
          refine wp_of e283 c283_37 (rw_istore_n (pc' := 38) (z := 0) (L' := [(3, vI 0), (2, vI v219615), (1, vI v219616), (0, .ref r0)]) rfl rfl rfl ?_)
          refine wp_of e283 c283_38 (rw_iconst (pc' := 39) rfl ?_)
          refine wp_of e283 c283_39 (rw_istore (pc' := 41) (z := 0) (L' := [(4, vI 0), (3, vI 0), (2, vI v219615), (1, vI v219616), (0, .ref r0)]) rfl rfl rfl ?_)
          have lp219816 : ∀ (n219817 : Nat) (v219819 : Int) (v219820 : Int), (0 ≤ v219819 ∧ v219819 ≤ 6) → ((-2147483648) ≤ v219820 ∧ v219820 ≤ 2147483647) → (6 - v219819).toNat = n219817 → wp kt 1 283 41 [(4, vI v219819), (3, vI v219820), (2, vI v219615), (1, vI v219616), (0, .ref r0)] [] T H217755 (q_283 r0 T H) := by
            intro n219817
            induction n219817 using Nat.strongRecOn with
            | _ n219817 ih219818 =>
              intro v219819 v219820 b219823 b219824 m219825
              refine wp_of e283 c283_41 (rw_iload (pc' := 43) (z := v219819) rfl rfl ?_)
              refine wp_of e283 c283_43 (rw_aload_n (pc' := 44) (v := .ref r0) rfl rfl rfl ?_)
              refine wp_of e283 c283_44 (xg_K (pc' := 47) lf_9_337 w217757 g0 sh_42 (by decide) (by decide) rfl q217761 rfl ?_)
              refine wp_of e283 c283_47 (xg_I (pc' := 50) lf_9_321 w217757 g217762 sh_54 (by decide) (by decide) ty_54_7 rfl rfl (fun b219826 b219827 => ?_))
              refine wp_of e283 c283_50 (rw_icmp_ge (p1 := 85) (p2 := 53) (by decide) rfl ⟨by omega, by omega⟩ ⟨by omega, by omega⟩ (fun c219828 => ?_) (fun c219828 => ?_))
              · refine wp_of e283 c283_85 (rw_aload_n (pc' := 86) (v := .ref r0) rfl rfl rfl ?_)
                refine wp_of e283 c283_86 (xg_I (pc' := 89) lf_9_343 w217757 g0 sh_42 (by decide) (by decide) ty_42_19 rfl rfl (fun b219829 b219830 => ?_))
                refine wp_of e283 c283_89 (rw_iload_n (pc' := 90) (z := v219820) rfl rfl ?_)
                refine wp_of e283 c283_90 (rw_iconst (pc' := 91) rfl ?_)
                refine wp_of e283 c283_91 (rw_ixor (pc' := 92) rfl ?_)
                obtain ⟨v219831, e219832⟩ : ∃ x : Int, x = wq_xor v219820 (-1) := ⟨_, rfl⟩
                rw [← e219832]
                have b219833 : -2147483648 ≤ v219831 ∧ v219831 ≤ 2147483647 := by
                  rw [e219832]
                  exact wI_xor _ _
                refine wp_of e283 c283_92 (rw_iand (pc' := 93) rfl ?_)
                obtain ⟨v219834, e219835⟩ : ∃ x : Int, x = wq_and (H217755 r0 19) v219831 := ⟨_, rfl⟩
                rw [← e219835]
                have b219836 : -2147483648 ≤ v219834 ∧ v219834 ≤ 2147483647 := by
                  rw [e219835]
                  exact wI_and _ _
                refine wp_of e283 c283_93 (rw_if_ne (p1 := 115) (p2 := 96) (by decide) rfl ⟨by omega, by omega⟩ (fun c219837 => ?_) (fun c219837 => ?_))
                · refine wp_of e283 c283_115 (rw_iinc (pc' := 118) (z := v219615) (L' := [(2, vI (v219615 + 1)), (4, vI v219819), (3, vI v219820), (1, vI v219616), (0, .ref r0)]) rfl rfl rfl rfl ?_)
                  refine wp_of e283 c283_118 (rw_goto (p1 := 23) (by decide) ?_)
                  exact wp_lc (ks := [2, 4, 3, 1, 0]) (wl_c rfl (wl_c rfl (wl_c rfl wl_n))) rfl (by decide) (ih219614 _ (by omega) (v219615 + 1) v219616 ⟨by omega, by omega⟩ ⟨by omega, by omega⟩ (by omega) rfl)
                · refine wp_of e283 c283_96 (rw_iload_n (pc' := 97) (z := v219616) rfl rfl ?_)
                  refine wp_of e283 c283_97 (rw_bipush (pc' := 99) (z := -2) rfl (by decide) ?_)
                  refine wp_of e283 c283_99 (rw_icmp_eq (p1 := 113) (p2 := 102) (by decide) rfl ⟨by omega, by omega⟩ ⟨by omega, by omega⟩ (fun c219838 => ?_) (fun c219838 => ?_))
                  · refine wp_of e283 c283_113 (rw_iload_n (pc' := 114) (z := v219615) rfl rfl ?_)
                    refine wp_of e283 c283_114 (rw_istore_n (pc' := 115) (z := v219615) (L' := [(1, vI v219615), (4, vI v219819), (3, vI v219820), (2, vI v219615), (0, .ref r0)]) rfl rfl rfl ?_)
                    refine wp_of e283 c283_115 (rw_iinc (pc' := 118) (z := v219615) (L' := [(2, vI (v219615 + 1)), (1, vI v219615), (4, vI v219819), (3, vI v219820), (0, .ref r0)]) rfl rfl rfl rfl ?_)
                    refine wp_of e283 c283_118 (rw_goto (p1 := 23) (by decide) ?_)
                    exact wp_lc (ks := [2, 1, 4, 3, 0]) (wl_c rfl (wl_c rfl (wl_c rfl wl_n))) rfl (by decide) (ih219614 _ (by omega) (v219615 + 1) v219615 ⟨by omega, by omega⟩ ⟨by omega, by omega⟩ (by omega) rfl)
                  · refine wp_of e283 c283_102 (rw_iload_n (pc' := 103) (z := v219615) rfl rfl ?_)
                    refine wp_of e283 c283_103 (xc_S (pc' := 106) (as := [vI v219615]) (st := []) (lm_9_462) rfl rfl (Nat.le_of_ble_eq_true rfl) rfl (by decide) (s_269 w217757 ⟨by omega, by omega⟩) (fun R219839 T219840 H219841 p219842 => ?_))
                    obtain ⟨e219843, e219845, z219846, e219844, b219847⟩ := p219842
                    subst e219843
                    subst e219844
                    subst e219845
                    show wp _ _ 283 106 [(4, vI v219819), (3, vI v219820), (2, vI v219615), (1, vI v219616), (0, .ref r0)] [vI z219846] _ H217755 _
                    refine wp_of e283 c283_106 (rw_iload_n (pc' := 107) (z := v219616) rfl rfl ?_)
                    refine wp_of e283 c283_107 (xc_S (pc' := 110) (as := [vI v219616]) (st := [vI z219846]) (lm_9_462) rfl rfl (Nat.le_of_ble_eq_true rfl) rfl (by decide) (s_269 w217757 ⟨by omega, by omega⟩) (fun R219848 T219849 H219850 p219851 => ?_))
                    obtain ⟨e219852, e219854, z219855, e219853, b219856⟩ := p219851
                    subst e219852
                    subst e219853
                    subst e219854
                    show wp _ _ 283 110 [(4, vI v219819), (3, vI v219820), (2, vI v219615), (1, vI v219616), (0, .ref r0)] [vI z219855, vI z219846] _ H217755 _
                    refine wp_of e283 c283_110 (rw_icmp_ge (p1 := 115) (p2 := 113) (by decide) rfl ⟨by omega, by omega⟩ ⟨by omega, by omega⟩ (fun c219857 => ?_) (fun c219857 => ?_))
                    · refine wp_of e283 c283_115 (rw_iinc (pc' := 118) (z := v219615) (L' := [(2, vI (v219615 + 1)), (4, vI v219819), (3, vI v219820), (1, vI v219616), (0, .ref r0)]) rfl rfl rfl rfl ?_)
                      refine wp_of e283 c283_118 (rw_goto (p1 := 23) (by decide) ?_)
                      exact wp_lc (ks := [2, 4, 3, 1, 0]) (wl_c rfl (wl_c rfl (wl_c rfl wl_n))) rfl (by decide) (ih219614 _ (by omega) (v219615 + 1) v219616 ⟨by omega, by omega⟩ ⟨by omega, by omega⟩ (by omega) rfl)
                    · refine wp_of e283 c283_113 (rw_iload_n (pc' := 114) (z := v219615) rfl rfl ?_)
                      refine wp_of e283 c283_114 (rw_istore_n (pc' := 115) (z := v219615) (L' := [(1, vI v219615), (4, vI v219819), (3, vI v219820), (2, vI v219615), (0, .ref r0)]) rfl rfl rfl ?_)
                      refine wp_of e283 c283_115 (rw_iinc (pc' := 118) (z := v219615) (L' := [(2, vI (v219615 + 1)), (1, vI v219615), (4, vI v219819), (3, vI v219820), (0, .ref r0)]) rfl rfl rfl rfl ?_)
                      refine wp_of e283 c283_118 (rw_goto (p1 := 23) (by decide) ?_)
                      exact wp_lc (ks := [2, 1, 4, 3, 0]) (wl_c rfl (wl_c rfl (wl_c rfl wl_n))) rfl (by decide) (ih219614 _ (by omega) (v219615 + 1) v219615 ⟨by omega, by omega⟩ ⟨by omega, by omega⟩ (by omega) rfl)
              · refine wp_of e283 c283_53 (rw_iload_n (pc' := 54) (z := v219820) rfl rfl ?_)
                refine wp_of e283 c283_54 (rw_iload_n (pc' := 55) (z := v219615) rfl rfl ?_)
                refine wp_of e283 c283_55 (rw_iload (pc' := 57) (z := v219819) rfl rfl ?_)
                refine wp_of e283 c283_57 (xc_S (pc' := 60) (as := [vI v219615, vI v219819]) (st := [vI v219820]) (lm_9_346) rfl rfl (Nat.le_of_ble_eq_true rfl) rfl (by decide) (s_205 w217757 ⟨by omega, by omega⟩ ⟨by omega, by omega⟩) (fun R219858 T219859 H219860 p219861 => ?_))
                obtain ⟨e219862, e219864, z219865, e219863, b219866⟩ := p219861
                subst e219862
                subst e219863
                subst e219864
                show wp _ _ 283 60 [(4, vI v219819), (3, vI v219820), (2, vI v219615), (1, vI v219616), (0, .ref r0)] [vI z219865, vI v219820] _ H217755 _
                refine wp_of e283 c283_60 (rw_if_eq (p1 := 76) (p2 := 63) (by decide) rfl ⟨by omega, by omega⟩ (fun c219867 => ?_) (fun c219867 => ?_))
                · refine wp_of e283 c283_76 (rw_iconst (pc' := 77) rfl ?_)
                  refine wp_of e283 c283_77 (rw_ior (pc' := 78) rfl ?_)
                  obtain ⟨v219868, e219869⟩ : ∃ x : Int, x = wq_or v219820 0 := ⟨_, rfl⟩
                  rw [← e219869]
                  have b219870 : -2147483648 ≤ v219868 ∧ v219868 ≤ 2147483647 := by
                    rw [e219869]
                    exact wI_or _ _
                  refine wp_of e283 c283_78 (rw_istore_n (pc' := 79) (z := v219868) (L' := [(3, vI v219868), (4, vI v219819), (2, vI v219615), (1, vI v219616), (0, .ref r0)]) rfl rfl rfl ?_)
                  refine wp_of e283 c283_79 (rw_iinc (pc' := 82) (z := v219819) (L' := [(4, vI (v219819 + 1)), (3, vI v219868), (2, vI v219615), (1, vI v219616), (0, .ref r0)]) rfl rfl rfl rfl ?_)
                  refine wp_of e283 c283_82 (rw_goto (p1 := 41) (by decide) ?_)
                  exact wp_lc (ks := [4, 3, 2, 1, 0]) (wl_c rfl (wl_c rfl (wl_c rfl (wl_c rfl (wl_c rfl wl_n))))) rfl (by decide) (ih219818 _ (by omega) (v219819 + 1) v219868 ⟨by omega, by omega⟩ ⟨by omega, by omega⟩ rfl)
                · refine wp_of e283 c283_63 (rw_aload_n (pc' := 64) (v := .ref r0) rfl rfl rfl ?_)
                  refine wp_of e283 c283_64 (xg_K (pc' := 67) lf_9_337 w217757 g0 sh_42 (by decide) (by decide) rfl q217761 rfl ?_)
                  refine wp_of e283 c283_67 (xg_R (pc' := 70) lf_9_327 w217757 g217762 sh_54 (by decide) (by decide) ty_54_26 rfl rfl (fun r219871 q219872 g219873 => ?_))
                  refine wp_of e283 c283_70 (rw_iload (pc' := 72) (z := v219819) rfl rfl ?_)
                  refine wp_of e283 c283_72 (xa_I (so := 0) (pc' := 73) w217757 g219873 sh_72 (by decide) (ty_72 _) (by omega) (by omega) rfl (fun b219874 b219875 => ?_))
                  refine wp_of e283 c283_73 (rw_goto (p1 := 77) (by decide) ?_)
                  refine wp_of e283 c283_77 (rw_ior (pc' := 78) rfl ?_)
                  obtain ⟨v219876, e219877⟩ : ∃ x : Int, x = wq_or v219820 (H217755 r219871 (v219819.toNat)) := ⟨_, rfl⟩
                  rw [← e219877]
                  have b219878 : -2147483648 ≤ v219876 ∧ v219876 ≤ 2147483647 := by
                    rw [e219877]
                    exact wI_or _ _
                  refine wp_of e283 c283_78 (rw_istore_n (pc' := 79) (z := v219876) (L' := [(3, vI v219876), (4, vI v219819), (2, vI v219615), (1, vI v219616), (0, .ref r0)]) rfl rfl rfl ?_)
                  refine wp_of e283 c283_79 (rw_iinc (pc' := 82) (z := v219819) (L' := [(4, vI (v219819 + 1)), (3, vI v219876), (2, vI v219615), (1, vI v219616), (0, .ref r0)]) rfl rfl rfl rfl ?_)
                  refine wp_of e283 c283_82 (rw_goto (p1 := 41) (by decide) ?_)
                  exact wp_lc (ks := [4, 3, 2, 1, 0]) (wl_c rfl (wl_c rfl (wl_c rfl (wl_c rfl (wl_c rfl wl_n))))) rfl (by decide) (ih219818 _ (by omega) (v219819 + 1) v219876 ⟨by omega, by omega⟩ ⟨by omega, by omega⟩ rfl)
          exact wp_lc (ks := [4, 3, 2, 1, 0]) (wl_c rfl (wl_c rfl (wl_c rfl (wl_c rfl (wl_c rfl wl_n))))) rfl (by decide) (lp219816 _ 0 0 ⟨by omega, by omega⟩ ⟨by omega, by omega⟩ rfl)
    exact wp_lc (ks := [2, 1, 0]) (wl_c rfl (wl_c rfl (wl_c rfl wl_n))) rfl (by decide) (lp219612 _ 0 (-2) ⟨by omega, by omega⟩ ⟨by omega, by omega⟩ (by omega) rfl)
/-! StrikeAwakeModel.quiet(I)I -/
theorem e284 : wq_en 284 = some (9, 4, false, some FieldType.int) := rfl
theorem c284_0 : mc_cd 284 0 = some (.aload_n 0, 1) := by decide +kernel
theorem c284_1 : mc_cd 284 1 = some (.iconst 0, 1) := by decide +kernel
theorem c284_2 : mc_cd 284 2 = some (.putfield 48, 3) := by decide +kernel
theorem c284_5 : mc_cd 284 5 = some (.aload_n 0, 1) := by decide +kernel
theorem c284_6 : mc_cd 284 6 = some (.getfield 337, 3) := by decide +kernel
theorem c284_9 : mc_cd 284 9 = some (.ifnonnull 9, 3) := by decide +kernel
theorem c284_12 : mc_cd 284 12 = some (.aload_n 0, 1) := by decide +kernel
theorem c284_13 : mc_cd 284 13 = some (.iconst 1, 1) := by decide +kernel
theorem c284_14 : mc_cd 284 14 = some (.invokevirtual 54, 3) := by decide +kernel
theorem c284_17 : mc_cd 284 17 = some (.ireturn, 1) := by decide +kernel
theorem c284_18 : mc_cd 284 18 = some (.iload_n 1, 1) := by decide +kernel
theorem c284_19 : mc_cd 284 19 = some (.iconst 0, 1) := by decide +kernel
theorem c284_20 : mc_cd 284 20 = some (.bipush 99, 2) := by decide +kernel
theorem c284_22 : mc_cd 284 22 = some (.invokestatic 125, 3) := by decide +kernel
theorem c284_25 : mc_cd 284 25 = some (.ifCond .ne 9, 3) := by decide +kernel
theorem c284_28 : mc_cd 284 28 = some (.aload_n 0, 1) := by decide +kernel
theorem c284_29 : mc_cd 284 29 = some (.iconst 2, 1) := by decide +kernel
theorem c284_30 : mc_cd 284 30 = some (.invokevirtual 54, 3) := by decide +kernel
theorem c284_33 : mc_cd 284 33 = some (.ireturn, 1) := by decide +kernel
theorem c284_34 : mc_cd 284 34 = some (.iconst 0, 1) := by decide +kernel
theorem c284_35 : mc_cd 284 35 = some (.istore_n 2, 1) := by decide +kernel
theorem c284_36 : mc_cd 284 36 = some (.iconst 0, 1) := by decide +kernel
theorem c284_37 : mc_cd 284 37 = some (.istore_n 3, 1) := by decide +kernel
theorem c284_38 : mc_cd 284 38 = some (.iload_n 3, 1) := by decide +kernel
theorem c284_39 : mc_cd 284 39 = some (.aload_n 0, 1) := by decide +kernel
theorem c284_40 : mc_cd 284 40 = some (.getfield 337, 3) := by decide +kernel
theorem c284_43 : mc_cd 284 43 = some (.getfield 185, 3) := by decide +kernel
theorem c284_46 : mc_cd 284 46 = some (.if_icmp .ge 40, 3) := by decide +kernel
theorem c284_49 : mc_cd 284 49 = some (.iload_n 2, 1) := by decide +kernel
theorem c284_50 : mc_cd 284 50 = some (.aload_n 0, 1) := by decide +kernel
theorem c284_51 : mc_cd 284 51 = some (.getfield 17, 3) := by decide +kernel
theorem c284_54 : mc_cd 284 54 = some (.iload_n 3, 1) := by decide +kernel
theorem c284_55 : mc_cd 284 55 = some (.iaload, 1) := by decide +kernel
theorem c284_56 : mc_cd 284 56 = some (.ifCond .le 21, 3) := by decide +kernel
theorem c284_59 : mc_cd 284 59 = some (.aload_n 0, 1) := by decide +kernel
theorem c284_60 : mc_cd 284 60 = some (.getfield 17, 3) := by decide +kernel
theorem c284_63 : mc_cd 284 63 = some (.iload_n 3, 1) := by decide +kernel
theorem c284_64 : mc_cd 284 64 = some (.iaload, 1) := by decide +kernel
theorem c284_65 : mc_cd 284 65 = some (.iconst 1, 1) := by decide +kernel
theorem c284_66 : mc_cd 284 66 = some (.isub, 1) := by decide +kernel
theorem c284_67 : mc_cd 284 67 = some (.iload_n 1, 1) := by decide +kernel
theorem c284_68 : mc_cd 284 68 = some (.if_icmp .gt 9, 3) := by decide +kernel
theorem c284_71 : mc_cd 284 71 = some (.iconst 1, 1) := by decide +kernel
theorem c284_72 : mc_cd 284 72 = some (.iload_n 3, 1) := by decide +kernel
theorem c284_73 : mc_cd 284 73 = some (.ishl, 1) := by decide +kernel
theorem c284_74 : mc_cd 284 74 = some (.goto 4, 3) := by decide +kernel
theorem c284_77 : mc_cd 284 77 = some (.iconst 0, 1) := by decide +kernel
theorem c284_78 : mc_cd 284 78 = some (.ior, 1) := by decide +kernel
theorem c284_79 : mc_cd 284 79 = some (.istore_n 2, 1) := by decide +kernel
theorem c284_80 : mc_cd 284 80 = some (.iinc 3 1, 3) := by decide +kernel
theorem c284_83 : mc_cd 284 83 = some (.goto (-45), 3) := by decide +kernel
theorem c284_86 : mc_cd 284 86 = some (.aload_n 0, 1) := by decide +kernel
theorem c284_87 : mc_cd 284 87 = some (.iload_n 2, 1) := by decide +kernel
theorem c284_88 : mc_cd 284 88 = some (.invokevirtual 58, 3) := by decide +kernel
theorem c284_91 : mc_cd 284 91 = some (.ireturn, 1) := by decide +kernel
abbrev q_284 (r0 : Nat) (a1 : Int) (T : wq_T) (H : wq_H) : Option Value → wq_T → wq_H → Prop := fun r T' H' => T = T' ∧ WT T H' ∧ wfr [(42, 0), (42, 1), (42, 2)] T H H' ∧ ∃ z : Int, some (vI z) = r ∧ ((-2147483648) ≤ z ∧ z ≤ 2147483647) ∧ (wKI H' r0 = 1)
set_option maxHeartbeats 4000000 in
theorem s_284 {kt : Nat → Option mc_E} {T : wq_T} {H : wq_H} {r0 : Nat} {a1 : Int} (hW : WT T H) (g0 : T.2.2.2 r0 = some 42) (i1 : (-2147483648) ≤ a1 ∧ a1 ≤ 2147483647) (p0 : wKI H r0 = 1) : wpc kt 2 284 [.ref r0, vI a1] T H (q_284 r0 a1 T H) := by
  refine wp_enter e284 (Nat.le_of_ble_eq_true rfl) rfl ?_
  have f0 : wfr [(42, 0), (42, 1), (42, 2)] T H H := wfr.rf
  show wp _ _ 284 0 [(0, .ref r0), (1, vI a1)] [] _ H _
  refine wp_of e284 c284_0 (rw_aload_n (pc' := 1) (v := .ref r0) rfl rfl rfl ?_)
  refine wp_of e284 c284_1 (rw_iconst (pc' := 2) rfl ?_)
  refine wp_of e284 c284_2 (xp_I (pc' := 5) lf_9_48 hW g0 sh_42 (by decide) (by decide) ty_42_0 rfl rfl (by omega) (by omega) ⟨by omega, by omega⟩ rfl (fun H220131 e220132 w220133 => ?_))
  have f220134 := f0.put' e220132 g0 rfl
  have k220135 : H220131 r0 0 = 0 := wq_u_s e220132
  refine wp_of e284 c284_5 (rw_aload_n (pc' := 6) (v := .ref r0) rfl rfl rfl ?_)
  refine wp_of e284 c284_6 (xg_O (pc' := 9) lf_9_337 w220133 g0 sh_42 (by decide) (by decide) ty_42_3 rfl rfl (fun q220137 => ?_) (fun r220136 q220137 g220138 => ?_))
  · refine wp_of e284 c284_9 (rw_ifnonnull_n (p1 := 18) (p2 := 12) (by decide) rfl ?_)
    refine wp_of e284 c284_12 (rw_aload_n (pc' := 13) (v := .ref r0) rfl rfl rfl ?_)
    refine wp_of e284 c284_13 (rw_iconst (pc' := 14) rfl ?_)
    refine wp_of e284 c284_14 (xc_V (pc' := 17) (r := r0) (as := [vI 1]) (st := []) (lm_9_54) rfl rfl (Nat.le_of_ble_eq_true rfl) w220133 g0 sh_42 (by decide) rfl (by decide) (s_170 w220133 g0 ⟨by omega, by omega⟩) (fun R220139 T220140 H220141 p220142 => ?_))
    obtain ⟨e220143, w220145, f220146, z220147, e220144, b220148⟩ := p220142
    subst e220143
    subst e220144
    have f220149 := f220134.tr f220146 rfl
    show wp _ _ 284 17 [(0, .ref r0), (1, vI a1)] [vI z220147] _ H220141 _
    have k220150 : wKI H220141 r0 = wKI H r0 := ((wKI_fr w220133 g0 f220146 rfl).trans (wKI_fr hW g0 ((wfr.rf (l := [(42, 0)])).put' e220132 g0 rfl) rfl))
    exact wp_ireturn e284 c284_17 rfl ⟨rfl, w220145, f220149, z220147, rfl, ⟨by omega, by omega⟩, by omega⟩
  · refine wp_of e284 c284_9 (rw_ifnonnull_r (p1 := 18) (p2 := 12) (by decide) rfl ?_)
    refine wp_of e284 c284_18 (rw_iload_n (pc' := 19) (z := a1) rfl rfl ?_)
    refine wp_of e284 c284_19 (rw_iconst (pc' := 20) rfl ?_)
    refine wp_of e284 c284_20 (rw_bipush (pc' := 22) (z := 99) rfl (by decide) ?_)
    refine wp_of e284 c284_22 (xc_S (pc' := 25) (as := [vI a1, vI 0, vI 99]) (st := []) (lm_9_125) rfl rfl (Nat.le_of_ble_eq_true rfl) rfl (by decide) (s_186 w220133 ⟨by omega, by omega⟩ ⟨by omega, by omega⟩ ⟨by omega, by omega⟩) (fun R220151 T220152 H220153 p220154 => ?_))
    obtain ⟨e220155, e220157, z220159, e220156, b220160, p220158⟩ := p220154
    subst e220155
    subst e220156
    subst e220157
    show wp _ _ 284 25 [(0, .ref r0), (1, vI a1)] [vI z220159] _ H220131 _
    refine wp_of e284 c284_25 (rw_if_ne (p1 := 34) (p2 := 28) (by decide) rfl ⟨by omega, by omega⟩ (fun c220161 => ?_) (fun c220161 => ?_))
    · refine wp_of e284 c284_34 (rw_iconst (pc' := 35) rfl ?_)
      refine wp_of e284 c284_35 (rw_istore_n (pc' := 36) (z := 0) (L' := [(2, vI 0), (0, .ref r0), (1, vI a1)]) rfl rfl rfl ?_)
      refine wp_of e284 c284_36 (rw_iconst (pc' := 37) rfl ?_)
      refine wp_of e284 c284_37 (rw_istore_n (pc' := 38) (z := 0) (L' := [(3, vI 0), (2, vI 0), (0, .ref r0), (1, vI a1)]) rfl rfl rfl ?_)
      have lp220338 : ∀ (n220339 : Nat) (v220341 : Int) (v220342 : Int), (0 ≤ v220341 ∧ v220341 ≤ 24) → (0 ≤ v220342 ∧ v220342 ≤ 16777215) → (24 - v220341).toNat = n220339 → wp kt 1 284 38 [(3, vI v220341), (2, vI v220342), (0, .ref r0), (1, vI a1)] [] T H220131 (q_284 r0 a1 T H) := by
        intro n220339
        induction n220339 using Nat.strongRecOn with
        | _ n220339 ih220340 =>
          intro v220341 v220342 b220345 b220346 m220347
          refine wp_of e284 c284_38 (rw_iload_n (pc' := 39) (z := v220341) rfl rfl ?_)
          refine wp_of e284 c284_39 (rw_aload_n (pc' := 40) (v := .ref r0) rfl rfl rfl ?_)
          refine wp_of e284 c284_40 (xg_K (pc' := 43) lf_9_337 w220133 g0 sh_42 (by decide) (by decide) rfl q220137 rfl ?_)
          refine wp_of e284 c284_43 (xg_I (pc' := 46) lf_9_185 w220133 g220138 sh_54 (by decide) (by decide) ty_54_0 rfl rfl (fun b220348 b220349 => ?_))
          refine wp_of e284 c284_46 (rw_icmp_ge (p1 := 86) (p2 := 49) (by decide) rfl ⟨by omega, by omega⟩ ⟨by omega, by omega⟩ (fun c220350 => ?_) (fun c220350 => ?_))
          · refine wp_of e284 c284_86 (rw_aload_n (pc' := 87) (v := .ref r0) rfl rfl rfl ?_)
            refine wp_of e284 c284_87 (rw_iload_n (pc' := 88) (z := v220342) rfl rfl ?_)
            refine wp_of e284 c284_88 (xc_V (pc' := 91) (r := r0) (as := [vI v220342]) (st := []) (lm_9_58) rfl rfl (Nat.le_of_ble_eq_true rfl) w220133 g0 sh_42 (by decide) rfl (by decide) (s_209 w220133 g0 ⟨by omega, by omega⟩) (fun R220351 T220352 H220353 p220354 => ?_))
            obtain ⟨e220355, w220357, f220358, z220359, e220356, b220360⟩ := p220354
            subst e220355
            subst e220356
            have f220361 := f220134.tr f220358 rfl
            show wp _ _ 284 91 [(3, vI v220341), (2, vI v220342), (0, .ref r0), (1, vI a1)] [vI z220359] _ H220353 _
            have k220362 : wKI H220353 r0 = wKI H r0 := ((wKI_fr w220133 g0 f220358 rfl).trans (wKI_fr hW g0 ((wfr.rf (l := [(42, 0)])).put' e220132 g0 rfl) rfl))
            exact wp_ireturn e284 c284_91 rfl ⟨rfl, w220357, f220361, z220359, rfl, ⟨by omega, by omega⟩, by omega⟩
          · refine wp_of e284 c284_49 (rw_iload_n (pc' := 50) (z := v220342) rfl rfl ?_)
            refine wp_of e284 c284_50 (rw_aload_n (pc' := 51) (v := .ref r0) rfl rfl rfl ?_)
            refine wp_of e284 c284_51 (xg_R (pc' := 54) lf_9_17 w220133 g0 sh_42 (by decide) (by decide) ty_42_20 rfl rfl (fun r220363 q220364 g220365 => ?_))
            refine wp_of e284 c284_54 (rw_iload_n (pc' := 55) (z := v220341) rfl rfl ?_)
            refine wp_of e284 c284_55 (xa_I (so := 0) (pc' := 56) w220133 g220365 sh_44 (by decide) (ty_44 _) (by omega) (by omega) rfl (fun b220366 b220367 => ?_))
            refine wp_of e284 c284_56 (rw_if_le (p1 := 77) (p2 := 59) (by decide) rfl ⟨by omega, by omega⟩ (fun c220368 => ?_) (fun c220368 => ?_))
            · refine wp_of e284 c284_77 (rw_iconst (pc' := 78) rfl ?_)
              refine wp_of e284 c284_78 (rw_ior (pc' := 79) rfl ?_)
              obtain ⟨v220369, e220370⟩ : ∃ x : Int, x = wq_or v220342 0 := ⟨_, rfl⟩
              rw [← e220370]
              have b220371 : 0 ≤ v220369 ∧ v220369 ≤ 16777215 := by
                rw [e220370]
                exact wq_or_24 ⟨by omega, by omega⟩ ⟨by omega, by omega⟩
              refine wp_of e284 c284_79 (rw_istore_n (pc' := 80) (z := v220369) (L' := [(2, vI v220369), (3, vI v220341), (0, .ref r0), (1, vI a1)]) rfl rfl rfl ?_)
              refine wp_of e284 c284_80 (rw_iinc (pc' := 83) (z := v220341) (L' := [(3, vI (v220341 + 1)), (2, vI v220369), (0, .ref r0), (1, vI a1)]) rfl rfl rfl rfl ?_)
              refine wp_of e284 c284_83 (rw_goto (p1 := 38) (by decide) ?_)
              exact wp_lc (ks := [3, 2, 0, 1]) (wl_c rfl (wl_c rfl (wl_c rfl (wl_c rfl wl_n)))) rfl (by decide) (ih220340 _ (by omega) (v220341 + 1) v220369 ⟨by omega, by omega⟩ ⟨by omega, by omega⟩ rfl)
            · refine wp_of e284 c284_59 (rw_aload_n (pc' := 60) (v := .ref r0) rfl rfl rfl ?_)
              refine wp_of e284 c284_60 (xg_K (pc' := 63) lf_9_17 w220133 g0 sh_42 (by decide) (by decide) rfl q220364 rfl ?_)
              refine wp_of e284 c284_63 (rw_iload_n (pc' := 64) (z := v220341) rfl rfl ?_)
              refine wp_of e284 c284_64 (xa_I (so := 0) (pc' := 65) w220133 g220365 sh_44 (by decide) (ty_44 _) (by omega) (by omega) rfl (fun b220372 b220373 => ?_))
              refine wp_of e284 c284_65 (rw_iconst (pc' := 66) rfl ?_)
              refine wp_of e284 c284_66 (rw_isub (pc' := 67) rfl ?_)
              refine wp_of e284 c284_67 (rw_iload_n (pc' := 68) (z := a1) rfl rfl ?_)
              refine wp_of e284 c284_68 (rw_icmp_gt (p1 := 77) (p2 := 71) (by decide) rfl ⟨by omega, by omega⟩ ⟨by omega, by omega⟩ (fun c220374 => ?_) (fun c220374 => ?_))
              · refine wp_of e284 c284_77 (rw_iconst (pc' := 78) rfl ?_)
                refine wp_of e284 c284_78 (rw_ior (pc' := 79) rfl ?_)
                obtain ⟨v220375, e220376⟩ : ∃ x : Int, x = wq_or v220342 0 := ⟨_, rfl⟩
                rw [← e220376]
                have b220377 : 0 ≤ v220375 ∧ v220375 ≤ 16777215 := by
                  rw [e220376]
                  exact wq_or_24 ⟨by omega, by omega⟩ ⟨by omega, by omega⟩
                refine wp_of e284 c284_79 (rw_istore_n (pc' := 80) (z := v220375) (L' := [(2, vI v220375), (3, vI v220341), (0, .ref r0), (1, vI a1)]) rfl rfl rfl ?_)
                refine wp_of e284 c284_80 (rw_iinc (pc' := 83) (z := v220341) (L' := [(3, vI (v220341 + 1)), (2, vI v220375), (0, .ref r0), (1, vI a1)]) rfl rfl rfl rfl ?_)
                refine wp_of e284 c284_83 (rw_goto (p1 := 38) (by decide) ?_)
                exact wp_lc (ks := [3, 2, 0, 1]) (wl_c rfl (wl_c rfl (wl_c rfl (wl_c rfl wl_n)))) rfl (by decide) (ih220340 _ (by omega) (v220341 + 1) v220375 ⟨by omega, by omega⟩ ⟨by omega, by omega⟩ rfl)
              · refine wp_of e284 c284_71 (rw_iconst (pc' := 72) rfl ?_)
                refine wp_of e284 c284_72 (rw_iload_n (pc' := 73) (z := v220341) rfl rfl ?_)
                refine wp_of e284 c284_73 (rw_ishl (pc' := 74) rfl ?_)
                obtain ⟨v220378, e220379⟩ : ∃ x : Int, x = wq_shl 1 v220341 := ⟨_, rfl⟩
                rw [← e220379]
                have b220380 : 1 ≤ v220378 ∧ v220378 ≤ 8388608 := by
                  rw [e220379]
                  exact wq_shl1_24 ⟨by omega, by omega⟩
                refine wp_of e284 c284_74 (rw_goto (p1 := 78) (by decide) ?_)
                refine wp_of e284 c284_78 (rw_ior (pc' := 79) rfl ?_)
                obtain ⟨v220381, e220382⟩ : ∃ x : Int, x = wq_or v220342 v220378 := ⟨_, rfl⟩
                rw [← e220382]
                have b220383 : 0 ≤ v220381 ∧ v220381 ≤ 16777215 := by
                  rw [e220382]
                  exact wq_or_24 ⟨by omega, by omega⟩ ⟨by omega, by omega⟩
                refine wp_of e284 c284_79 (rw_istore_n (pc' := 80) (z := v220381) (L' := [(2, vI v220381), (3, vI v220341), (0, .ref r0), (1, vI a1)]) rfl rfl rfl ?_)
                refine wp_of e284 c284_80 (rw_iinc (pc' := 83) (z := v220341) (L' := [(3, vI (v220341 + 1)), (2, vI v220381), (0, .ref r0), (1, vI a1)]) rfl rfl rfl rfl ?_)
                refine wp_of e284 c284_83 (rw_goto (p1 := 38) (by decide) ?_)
                exact wp_lc (ks := [3, 2, 0, 1]) (wl_c rfl (wl_c rfl (wl_c rfl (wl_c rfl wl_n)))) rfl (by decide) (ih220340 _ (by omega) (v220341 + 1) v220381 ⟨by omega, by omega⟩ ⟨by omega, by omega⟩ rfl)
      exact wp_lc (ks := [3, 2, 0, 1]) (wl_c rfl (wl_c rfl (wl_c rfl (wl_c rfl wl_n)))) rfl (by decide) (lp220338 _ 0 0 ⟨by omega, by omega⟩ ⟨by omega, by omega⟩ rfl)
    · refine wp_of e284 c284_28 (rw_aload_n (pc' := 29) (v := .ref r0) rfl rfl rfl ?_)
      refine wp_of e284 c284_29 (rw_iconst (pc' := 30) rfl ?_)
      refine wp_of e284 c284_30 (xc_V (pc' := 33) (r := r0) (as := [vI 2]) (st := []) (lm_9_54) rfl rfl (Nat.le_of_ble_eq_true rfl) w220133 g0 sh_42 (by decide) rfl (by decide) (s_170 w220133 g0 ⟨by omega, by omega⟩) (fun R220384 T220385 H220386 p220387 => ?_))
      obtain ⟨e220388, w220390, f220391, z220392, e220389, b220393⟩ := p220387
      subst e220388
      subst e220389
      have f220394 := f220134.tr f220391 rfl
      show wp _ _ 284 33 [(0, .ref r0), (1, vI a1)] [vI z220392] _ H220386 _
      have k220395 : wKI H220386 r0 = wKI H r0 := ((wKI_fr w220133 g0 f220391 rfl).trans (wKI_fr hW g0 ((wfr.rf (l := [(42, 0)])).put' e220132 g0 rfl) rfl))
      exact wp_ireturn e284 c284_33 rfl ⟨rfl, w220390, f220394, z220392, rfl, ⟨by omega, by omega⟩, by omega⟩
/-! StrikeAwakeModel.strike(II)I -/
theorem e285 : wq_en 285 = some (9, 3, false, some FieldType.int) := rfl
theorem c285_0 : mc_cd 285 0 = some (.aload_n 0, 1) := by decide +kernel
theorem c285_1 : mc_cd 285 1 = some (.iconst 0, 1) := by decide +kernel
theorem c285_2 : mc_cd 285 2 = some (.putfield 48, 3) := by decide +kernel
theorem c285_5 : mc_cd 285 5 = some (.aload_n 0, 1) := by decide +kernel
theorem c285_6 : mc_cd 285 6 = some (.iload_n 1, 1) := by decide +kernel
theorem c285_7 : mc_cd 285 7 = some (.invokevirtual 373, 3) := by decide +kernel
theorem c285_10 : mc_cd 285 10 = some (.ifCond .ne 9, 3) := by decide +kernel
theorem c285_13 : mc_cd 285 13 = some (.aload_n 0, 1) := by decide +kernel
theorem c285_14 : mc_cd 285 14 = some (.iconst 1, 1) := by decide +kernel
theorem c285_15 : mc_cd 285 15 = some (.invokevirtual 54, 3) := by decide +kernel
theorem c285_18 : mc_cd 285 18 = some (.ireturn, 1) := by decide +kernel
theorem c285_19 : mc_cd 285 19 = some (.iload_n 2, 1) := by decide +kernel
theorem c285_20 : mc_cd 285 20 = some (.iconst 0, 1) := by decide +kernel
theorem c285_21 : mc_cd 285 21 = some (.bipush 99, 2) := by decide +kernel
theorem c285_23 : mc_cd 285 23 = some (.invokestatic 125, 3) := by decide +kernel
theorem c285_26 : mc_cd 285 26 = some (.ifCond .ne 9, 3) := by decide +kernel
theorem c285_29 : mc_cd 285 29 = some (.aload_n 0, 1) := by decide +kernel
theorem c285_30 : mc_cd 285 30 = some (.iconst 2, 1) := by decide +kernel
theorem c285_31 : mc_cd 285 31 = some (.invokevirtual 54, 3) := by decide +kernel
theorem c285_34 : mc_cd 285 34 = some (.ireturn, 1) := by decide +kernel
theorem c285_35 : mc_cd 285 35 = some (.aload_n 0, 1) := by decide +kernel
theorem c285_36 : mc_cd 285 36 = some (.getfield 17, 3) := by decide +kernel
theorem c285_39 : mc_cd 285 39 = some (.iload_n 1, 1) := by decide +kernel
theorem c285_40 : mc_cd 285 40 = some (.iload_n 2, 1) := by decide +kernel
theorem c285_41 : mc_cd 285 41 = some (.iconst 1, 1) := by decide +kernel
theorem c285_42 : mc_cd 285 42 = some (.iadd, 1) := by decide +kernel
theorem c285_43 : mc_cd 285 43 = some (.iastore, 1) := by decide +kernel
theorem c285_44 : mc_cd 285 44 = some (.aload_n 0, 1) := by decide +kernel
theorem c285_45 : mc_cd 285 45 = some (.iconst 0, 1) := by decide +kernel
theorem c285_46 : mc_cd 285 46 = some (.putfield 353, 3) := by decide +kernel
theorem c285_49 : mc_cd 285 49 = some (.aload_n 0, 1) := by decide +kernel
theorem c285_50 : mc_cd 285 50 = some (.aload_n 0, 1) := by decide +kernel
theorem c285_51 : mc_cd 285 51 = some (.invokevirtual 357, 3) := by decide +kernel
theorem c285_54 : mc_cd 285 54 = some (.invokestatic 462, 3) := by decide +kernel
theorem c285_57 : mc_cd 285 57 = some (.invokevirtual 58, 3) := by decide +kernel
theorem c285_60 : mc_cd 285 60 = some (.ireturn, 1) := by decide +kernel
abbrev q_285 (r0 : Nat) (a1 : Int) (a2 : Int) (T : wq_T) (H : wq_H) : Option Value → wq_T → wq_H → Prop := fun r T' H' => T = T' ∧ WT T H' ∧ wfr [(42, 0), (42, 1), (42, 2), (42, 28), (44, 999)] T H H' ∧ ∃ z : Int, some (vI z) = r ∧ ((-2147483648) ≤ z ∧ z ≤ 2147483647) ∧ (wKI H' r0 = 1)
set_option maxHeartbeats 4000000 in
theorem s_285 {kt : Nat → Option mc_E} {T : wq_T} {H : wq_H} {r0 : Nat} {a1 : Int} {a2 : Int} (hW : WT T H) (g0 : T.2.2.2 r0 = some 42) (i1 : (-2147483648) ≤ a1 ∧ a1 ≤ 2147483647) (i2 : (-2147483648) ≤ a2 ∧ a2 ≤ 2147483647) (p0 : wKI H r0 = 1) : wpc kt 2 285 [.ref r0, vI a1, vI a2] T H (q_285 r0 a1 a2 T H) := by
  refine wp_enter e285 (Nat.le_of_ble_eq_true rfl) rfl ?_
  have f0 : wfr [(42, 0), (42, 1), (42, 2), (42, 28), (44, 999)] T H H := wfr.rf
  show wp _ _ 285 0 [(0, .ref r0), (1, vI a1), (2, vI a2)] [] _ H _
  refine wp_of e285 c285_0 (rw_aload_n (pc' := 1) (v := .ref r0) rfl rfl rfl ?_)
  refine wp_of e285 c285_1 (rw_iconst (pc' := 2) rfl ?_)
  refine wp_of e285 c285_2 (xp_I (pc' := 5) lf_9_48 hW g0 sh_42 (by decide) (by decide) ty_42_0 rfl rfl (by omega) (by omega) ⟨by omega, by omega⟩ rfl (fun H220491 e220492 w220493 => ?_))
  have f220494 := f0.put' e220492 g0 rfl
  have k220495 : H220491 r0 0 = 0 := wq_u_s e220492
  refine wp_of e285 c285_5 (rw_aload_n (pc' := 6) (v := .ref r0) rfl rfl rfl ?_)
  refine wp_of e285 c285_6 (rw_iload_n (pc' := 7) (z := a1) rfl rfl ?_)
  refine wp_of e285 c285_7 (xc_V (pc' := 10) (r := r0) (as := [vI a1]) (st := []) (lm_9_373) rfl rfl (Nat.le_of_ble_eq_true rfl) w220493 g0 sh_42 (by decide) rfl (by decide) (s_218 w220493 g0 ⟨by omega, by omega⟩) (fun R220496 T220497 H220498 p220499 => ?_))
  obtain ⟨e220500, e220502, z220504, e220501, b220505, p220503⟩ := p220499
  subst e220500
  subst e220501
  subst e220502
  show wp _ _ 285 10 [(0, .ref r0), (1, vI a1), (2, vI a2)] [vI z220504] _ H220491 _
  refine wp_of e285 c285_10 (rw_if_ne (p1 := 19) (p2 := 13) (by decide) rfl ⟨by omega, by omega⟩ (fun c220506 => ?_) (fun c220506 => ?_))
  · refine wp_of e285 c285_19 (rw_iload_n (pc' := 20) (z := a2) rfl rfl ?_)
    refine wp_of e285 c285_20 (rw_iconst (pc' := 21) rfl ?_)
    refine wp_of e285 c285_21 (rw_bipush (pc' := 23) (z := 99) rfl (by decide) ?_)
    refine wp_of e285 c285_23 (xc_S (pc' := 26) (as := [vI a2, vI 0, vI 99]) (st := []) (lm_9_125) rfl rfl (Nat.le_of_ble_eq_true rfl) rfl (by decide) (s_186 w220493 ⟨by omega, by omega⟩ ⟨by omega, by omega⟩ ⟨by omega, by omega⟩) (fun R220507 T220508 H220509 p220510 => ?_))
    obtain ⟨e220511, e220513, z220515, e220512, b220516, p220514⟩ := p220510
    subst e220511
    subst e220512
    subst e220513
    show wp _ _ 285 26 [(0, .ref r0), (1, vI a1), (2, vI a2)] [vI z220515] _ H220491 _
    refine wp_of e285 c285_26 (rw_if_ne (p1 := 35) (p2 := 29) (by decide) rfl ⟨by omega, by omega⟩ (fun c220517 => ?_) (fun c220517 => ?_))
    · refine wp_of e285 c285_35 (rw_aload_n (pc' := 36) (v := .ref r0) rfl rfl rfl ?_)
      refine wp_of e285 c285_36 (xg_R (pc' := 39) lf_9_17 w220493 g0 sh_42 (by decide) (by decide) ty_42_20 rfl rfl (fun r220518 q220519 g220520 => ?_))
      refine wp_of e285 c285_39 (rw_iload_n (pc' := 40) (z := a1) rfl rfl ?_)
      refine wp_of e285 c285_40 (rw_iload_n (pc' := 41) (z := a2) rfl rfl ?_)
      refine wp_of e285 c285_41 (rw_iconst (pc' := 42) rfl ?_)
      refine wp_of e285 c285_42 (rw_iaddw (pc' := 43) rfl ?_)
      obtain ⟨v220521, e220522⟩ : ∃ x : Int, x = wq_w (a2 + 1) := ⟨_, rfl⟩
      rw [← e220522]
      have b220523 : -2147483648 ≤ v220521 ∧ v220521 ≤ 2147483647 := by
        rw [e220522]
        exact wI_w _
      refine wp_of e285 c285_43 (xs_I (pc' := 44) w220493 g220520 (by decide) sh_44 (by decide) (ty_44 _) (by omega) (by omega) ⟨by omega, by omega⟩ (by omega) (by omega) rfl (fun H220524 e220525 w220526 => ?_))
      have f220527 := f220494.put' e220525 g220520 rfl
      refine wp_of e285 c285_44 (rw_aload_n (pc' := 45) (v := .ref r0) rfl rfl rfl ?_)
      refine wp_of e285 c285_45 (rw_iconst (pc' := 46) rfl ?_)
      refine wp_of e285 c285_46 (xp_Z (pc' := 49) lf_9_353 w220526 g0 sh_42 (by decide) (by decide) ty_42_28 rfl rfl (by omega) (by omega) rfl (fun H220528 e220529 w220530 => ?_))
      have f220531 := f220527.put' e220529 g0 rfl
      have k220532 : H220528 r0 28 = 0 := wq_u_s e220529
      refine wp_of e285 c285_49 (rw_aload_n (pc' := 50) (v := .ref r0) rfl rfl rfl ?_)
      refine wp_of e285 c285_50 (rw_aload_n (pc' := 51) (v := .ref r0) rfl rfl rfl ?_)
      refine wp_of e285 c285_51 (xc_V (pc' := 54) (r := r0) (as := []) (st := [.ref r0]) (lm_9_357) rfl rfl (Nat.le_of_ble_eq_true rfl) w220530 g0 sh_42 (by decide) rfl (by decide) (s_207 w220530 g0) (fun R220533 T220534 H220535 p220536 => ?_))
      obtain ⟨e220537, e220539, z220540, e220538, b220541⟩ := p220536
      subst e220537
      subst e220538
      subst e220539
      show wp _ _ 285 54 [(0, .ref r0), (1, vI a1), (2, vI a2)] [vI z220540, .ref r0] _ H220528 _
      refine wp_of e285 c285_54 (xc_S (pc' := 57) (as := [vI z220540]) (st := [.ref r0]) (lm_9_462) rfl rfl (Nat.le_of_ble_eq_true rfl) rfl (by decide) (s_269 w220530 ⟨by omega, by omega⟩) (fun R220542 T220543 H220544 p220545 => ?_))
      obtain ⟨e220546, e220548, z220549, e220547, b220550⟩ := p220545
      subst e220546
      subst e220547
      subst e220548
      show wp _ _ 285 57 [(0, .ref r0), (1, vI a1), (2, vI a2)] [vI z220549, .ref r0] _ H220528 _
      refine wp_of e285 c285_57 (xc_V (pc' := 60) (r := r0) (as := [vI z220549]) (st := []) (lm_9_58) rfl rfl (Nat.le_of_ble_eq_true rfl) w220530 g0 sh_42 (by decide) rfl (by decide) (s_209 w220530 g0 ⟨by omega, by omega⟩) (fun R220551 T220552 H220553 p220554 => ?_))
      obtain ⟨e220555, w220557, f220558, z220559, e220556, b220560⟩ := p220554
      subst e220555
      subst e220556
      have f220561 := f220531.tr f220558 rfl
      show wp _ _ 285 60 [(0, .ref r0), (1, vI a1), (2, vI a2)] [vI z220559] _ H220553 _
      have k220562 : wKI H220553 r0 = 1 := wKI_1.mpr (by omega)
      exact wp_ireturn e285 c285_60 rfl ⟨rfl, w220557, f220561, z220559, rfl, ⟨by omega, by omega⟩, by omega⟩
    · refine wp_of e285 c285_29 (rw_aload_n (pc' := 30) (v := .ref r0) rfl rfl rfl ?_)
      refine wp_of e285 c285_30 (rw_iconst (pc' := 31) rfl ?_)
      refine wp_of e285 c285_31 (xc_V (pc' := 34) (r := r0) (as := [vI 2]) (st := []) (lm_9_54) rfl rfl (Nat.le_of_ble_eq_true rfl) w220493 g0 sh_42 (by decide) rfl (by decide) (s_170 w220493 g0 ⟨by omega, by omega⟩) (fun R220563 T220564 H220565 p220566 => ?_))
      obtain ⟨e220567, w220569, f220570, z220571, e220568, b220572⟩ := p220566
      subst e220567
      subst e220568
      have f220573 := f220494.tr f220570 rfl
      show wp _ _ 285 34 [(0, .ref r0), (1, vI a1), (2, vI a2)] [vI z220571] _ H220565 _
      have k220574 : wKI H220565 r0 = wKI H r0 := ((wKI_fr w220493 g0 f220570 rfl).trans (wKI_fr hW g0 ((wfr.rf (l := [(42, 0)])).put' e220492 g0 rfl) rfl))
      exact wp_ireturn e285 c285_34 rfl ⟨rfl, w220569, f220573, z220571, rfl, ⟨by omega, by omega⟩, by omega⟩
  · refine wp_of e285 c285_13 (rw_aload_n (pc' := 14) (v := .ref r0) rfl rfl rfl ?_)
    refine wp_of e285 c285_14 (rw_iconst (pc' := 15) rfl ?_)
    refine wp_of e285 c285_15 (xc_V (pc' := 18) (r := r0) (as := [vI 1]) (st := []) (lm_9_54) rfl rfl (Nat.le_of_ble_eq_true rfl) w220493 g0 sh_42 (by decide) rfl (by decide) (s_170 w220493 g0 ⟨by omega, by omega⟩) (fun R220575 T220576 H220577 p220578 => ?_))
    obtain ⟨e220579, w220581, f220582, z220583, e220580, b220584⟩ := p220578
    subst e220579
    subst e220580
    have f220585 := f220494.tr f220582 rfl
    show wp _ _ 285 18 [(0, .ref r0), (1, vI a1), (2, vI a2)] [vI z220583] _ H220577 _
    have k220586 : wKI H220577 r0 = wKI H r0 := ((wKI_fr w220493 g0 f220582 rfl).trans (wKI_fr hW g0 ((wfr.rf (l := [(42, 0)])).put' e220492 g0 rfl) rfl))
    exact wp_ireturn e285 c285_18 rfl ⟨rfl, w220581, f220585, z220583, rfl, ⟨by omega, by omega⟩, by omega⟩
/-! StrikeAwakeModel.still(I)Z -/
theorem e286 : wq_en 286 = some (9, 2, false, some FieldType.boolean) := rfl
theorem c286_0 : mc_cd 286 0 = some (.aload_n 0, 1) := by decide +kernel
theorem c286_1 : mc_cd 286 1 = some (.iconst 0, 1) := by decide +kernel
theorem c286_2 : mc_cd 286 2 = some (.putfield 48, 3) := by decide +kernel
theorem c286_5 : mc_cd 286 5 = some (.aload_n 0, 1) := by decide +kernel
theorem c286_6 : mc_cd 286 6 = some (.iload_n 1, 1) := by decide +kernel
theorem c286_7 : mc_cd 286 7 = some (.invokevirtual 487, 3) := by decide +kernel
theorem c286_10 : mc_cd 286 10 = some (.ifCond .ne 9, 3) := by decide +kernel
theorem c286_13 : mc_cd 286 13 = some (.aload_n 0, 1) := by decide +kernel
theorem c286_14 : mc_cd 286 14 = some (.iconst 1, 1) := by decide +kernel
theorem c286_15 : mc_cd 286 15 = some (.invokevirtual 400, 3) := by decide +kernel
theorem c286_18 : mc_cd 286 18 = some (.ireturn, 1) := by decide +kernel
theorem c286_19 : mc_cd 286 19 = some (.aload_n 0, 1) := by decide +kernel
theorem c286_20 : mc_cd 286 20 = some (.getfield 17, 3) := by decide +kernel
theorem c286_23 : mc_cd 286 23 = some (.iload_n 1, 1) := by decide +kernel
theorem c286_24 : mc_cd 286 24 = some (.iconst 0, 1) := by decide +kernel
theorem c286_25 : mc_cd 286 25 = some (.iastore, 1) := by decide +kernel
theorem c286_26 : mc_cd 286 26 = some (.aload_n 0, 1) := by decide +kernel
theorem c286_27 : mc_cd 286 27 = some (.iconst 0, 1) := by decide +kernel
theorem c286_28 : mc_cd 286 28 = some (.putfield 353, 3) := by decide +kernel
theorem c286_31 : mc_cd 286 31 = some (.aload_n 0, 1) := by decide +kernel
theorem c286_32 : mc_cd 286 32 = some (.invokevirtual 403, 3) := by decide +kernel
theorem c286_35 : mc_cd 286 35 = some (.ireturn, 1) := by decide +kernel
abbrev q_286 (r0 : Nat) (a1 : Int) (T : wq_T) (H : wq_H) : Option Value → wq_T → wq_H → Prop := fun r T' H' => T = T' ∧ WT T H' ∧ wfr [(42, 0), (42, 1), (42, 2), (42, 28), (44, 999)] T H H' ∧ ∃ z : Int, some (vI z) = r ∧ (0 ≤ z ∧ z ≤ 1) ∧ (wKI H' r0 = 1)
set_option maxHeartbeats 4000000 in
theorem s_286 {kt : Nat → Option mc_E} {T : wq_T} {H : wq_H} {r0 : Nat} {a1 : Int} (hW : WT T H) (g0 : T.2.2.2 r0 = some 42) (i1 : (-2147483648) ≤ a1 ∧ a1 ≤ 2147483647) (p0 : wKI H r0 = 1) : wpc kt 3 286 [.ref r0, vI a1] T H (q_286 r0 a1 T H) := by
  refine wp_enter e286 (Nat.le_of_ble_eq_true rfl) rfl ?_
  have f0 : wfr [(42, 0), (42, 1), (42, 2), (42, 28), (44, 999)] T H H := wfr.rf
  show wp _ _ 286 0 [(0, .ref r0), (1, vI a1)] [] _ H _
  refine wp_of e286 c286_0 (rw_aload_n (pc' := 1) (v := .ref r0) rfl rfl rfl ?_)
  refine wp_of e286 c286_1 (rw_iconst (pc' := 2) rfl ?_)
  refine wp_of e286 c286_2 (xp_I (pc' := 5) lf_9_48 hW g0 sh_42 (by decide) (by decide) ty_42_0 rfl rfl (by omega) (by omega) ⟨by omega, by omega⟩ rfl (fun H220639 e220640 w220641 => ?_))
  have f220642 := f0.put' e220640 g0 rfl
  have k220643 : H220639 r0 0 = 0 := wq_u_s e220640
  refine wp_of e286 c286_5 (rw_aload_n (pc' := 6) (v := .ref r0) rfl rfl rfl ?_)
  refine wp_of e286 c286_6 (rw_iload_n (pc' := 7) (z := a1) rfl rfl ?_)
  refine wp_of e286 c286_7 (xc_V (pc' := 10) (r := r0) (as := [vI a1]) (st := []) (lm_9_487) rfl rfl (Nat.le_of_ble_eq_true rfl) w220641 g0 sh_42 (by decide) rfl (by decide) (s_280 w220641 g0 ⟨by omega, by omega⟩) (fun R220644 T220645 H220646 p220647 => ?_))
  obtain ⟨e220648, e220650, z220652, e220649, b220653, p220651⟩ := p220647
  subst e220648
  subst e220649
  subst e220650
  show wp _ _ 286 10 [(0, .ref r0), (1, vI a1)] [vI z220652] _ H220639 _
  refine wp_of e286 c286_10 (rw_if_ne (p1 := 19) (p2 := 13) (by decide) rfl ⟨by omega, by omega⟩ (fun c220654 => ?_) (fun c220654 => ?_))
  · refine wp_of e286 c286_19 (rw_aload_n (pc' := 20) (v := .ref r0) rfl rfl rfl ?_)
    refine wp_of e286 c286_20 (xg_R (pc' := 23) lf_9_17 w220641 g0 sh_42 (by decide) (by decide) ty_42_20 rfl rfl (fun r220655 q220656 g220657 => ?_))
    refine wp_of e286 c286_23 (rw_iload_n (pc' := 24) (z := a1) rfl rfl ?_)
    refine wp_of e286 c286_24 (rw_iconst (pc' := 25) rfl ?_)
    refine wp_of e286 c286_25 (xs_I (pc' := 26) w220641 g220657 (by decide) sh_44 (by decide) (ty_44 _) (by omega) (by omega) ⟨by omega, by omega⟩ (by omega) (by omega) rfl (fun H220658 e220659 w220660 => ?_))
    have f220661 := f220642.put' e220659 g220657 rfl
    refine wp_of e286 c286_26 (rw_aload_n (pc' := 27) (v := .ref r0) rfl rfl rfl ?_)
    refine wp_of e286 c286_27 (rw_iconst (pc' := 28) rfl ?_)
    refine wp_of e286 c286_28 (xp_Z (pc' := 31) lf_9_353 w220660 g0 sh_42 (by decide) (by decide) ty_42_28 rfl rfl (by omega) (by omega) rfl (fun H220662 e220663 w220664 => ?_))
    have f220665 := f220661.put' e220663 g0 rfl
    have k220666 : H220662 r0 28 = 0 := wq_u_s e220663
    refine wp_of e286 c286_31 (rw_aload_n (pc' := 32) (v := .ref r0) rfl rfl rfl ?_)
    refine wp_of e286 c286_32 (xc_V (pc' := 35) (r := r0) (as := []) (st := []) (lm_9_403) rfl rfl (Nat.le_of_ble_eq_true rfl) w220664 g0 sh_42 (by decide) rfl (by decide) (s_224 w220664 g0) (fun R220667 T220668 H220669 p220670 => ?_))
    obtain ⟨e220671, w220673, f220674, z220675, e220672, b220676⟩ := p220670
    subst e220671
    subst e220672
    have f220677 := f220665.tr f220674 rfl
    show wp _ _ 286 35 [(0, .ref r0), (1, vI a1)] [vI z220675] _ H220669 _
    have k220678 : wKI H220669 r0 = 1 := wKI_1.mpr (by omega)
    exact wp_zreturn e286 c286_35 rfl (by omega) ⟨rfl, w220673, f220677, z220675, rfl, ⟨by omega, by omega⟩, by omega⟩
  · refine wp_of e286 c286_13 (rw_aload_n (pc' := 14) (v := .ref r0) rfl rfl rfl ?_)
    refine wp_of e286 c286_14 (rw_iconst (pc' := 15) rfl ?_)
    refine wp_of e286 c286_15 (xc_V (pc' := 18) (r := r0) (as := [vI 1]) (st := []) (lm_9_400) rfl rfl (Nat.le_of_ble_eq_true rfl) w220641 g0 sh_42 (by decide) rfl (by decide) (s_223 w220641 g0 ⟨by omega, by omega⟩) (fun R220679 T220680 H220681 p220682 => ?_))
    obtain ⟨e220683, w220685, f220686, z220687, e220684, b220688⟩ := p220682
    subst e220683
    subst e220684
    have f220689 := f220642.tr f220686 rfl
    show wp _ _ 286 18 [(0, .ref r0), (1, vI a1)] [vI z220687] _ H220681 _
    have k220690 : wKI H220681 r0 = wKI H r0 := ((wKI_fr w220641 g0 f220686 rfl).trans (wKI_fr hW g0 ((wfr.rf (l := [(42, 0)])).put' e220640 g0 rfl) rfl))
    exact wp_zreturn e286 c286_18 rfl (by omega) ⟨rfl, w220685, f220689, z220687, rfl, ⟨by omega, by omega⟩, by omega⟩
