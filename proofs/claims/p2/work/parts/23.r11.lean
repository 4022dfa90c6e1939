/-! methods of the reference (own work, written by wip/gen2/sx.py) -/
/-! StrikeAwakeModel.part(IZ)I -/
theorem e279 : wq_en 279 = some (9, 7, false, some FieldType.int) := rfl
theorem c279_0 : mc_cd 279 0 = some (.aload_n 0, 1) := by decide +kernel
theorem c279_1 : mc_cd 279 1 = some (.iconst 0, 1) := by decide +kernel
theorem c279_2 : mc_cd 279 2 = some (.putfield 48, 3) := by decide +kernel
theorem c279_5 : mc_cd 279 5 = some (.aload_n 0, 1) := by decide +kernel
theorem c279_6 : mc_cd 279 6 = some (.aload_n 0, 1) := by decide +kernel
theorem c279_7 : mc_cd 279 7 = some (.iload_n 1, 1) := by decide +kernel
theorem c279_8 : mc_cd 279 8 = some (.invokevirtual 487, 3) := by decide +kernel
theorem c279_11 : mc_cd 279 11 = some (.invokevirtual 447, 3) := by decide +kernel
theorem c279_14 : mc_cd 279 14 = some (.istore_n 3, 1) := by decide +kernel
theorem c279_15 : mc_cd 279 15 = some (.iload_n 3, 1) := by decide +kernel
theorem c279_16 : mc_cd 279 16 = some (.ifCond .le 9, 3) := by decide +kernel
theorem c279_19 : mc_cd 279 19 = some (.aload_n 0, 1) := by decide +kernel
theorem c279_20 : mc_cd 279 20 = some (.iload_n 3, 1) := by decide +kernel
theorem c279_21 : mc_cd 279 21 = some (.invokevirtual 490, 3) := by decide +kernel
theorem c279_24 : mc_cd 279 24 = some (.ireturn, 1) := by decide +kernel
theorem c279_25 : mc_cd 279 25 = some (.iconst 0, 1) := by decide +kernel
theorem c279_26 : mc_cd 279 26 = some (.istore 4, 2) := by decide +kernel
theorem c279_28 : mc_cd 279 28 = some (.iconst 0, 1) := by decide +kernel
theorem c279_29 : mc_cd 279 29 = some (.istore 5, 2) := by decide +kernel
theorem c279_31 : mc_cd 279 31 = some (.iload 5, 2) := by decide +kernel
theorem c279_33 : mc_cd 279 33 = some (.aload_n 0, 1) := by decide +kernel
theorem c279_34 : mc_cd 279 34 = some (.getfield 422, 3) := by decide +kernel
theorem c279_37 : mc_cd 279 37 = some (.if_icmp .ge 75, 3) := by decide +kernel
theorem c279_40 : mc_cd 279 40 = some (.aload_n 0, 1) := by decide +kernel
theorem c279_41 : mc_cd 279 41 = some (.aload_n 0, 1) := by decide +kernel
theorem c279_42 : mc_cd 279 42 = some (.getfield 42, 3) := by decide +kernel
theorem c279_45 : mc_cd 279 45 = some (.iload 5, 2) := by decide +kernel
theorem c279_47 : mc_cd 279 47 = some (.iaload, 1) := by decide +kernel
theorem c279_48 : mc_cd 279 48 = some (.invokevirtual 425, 3) := by decide +kernel
theorem c279_51 : mc_cd 279 51 = some (.aload_n 0, 1) := by decide +kernel
theorem c279_52 : mc_cd 279 52 = some (.getfield 17, 3) := by decide +kernel
theorem c279_55 : mc_cd 279 55 = some (.iload_n 1, 1) := by decide +kernel
theorem c279_56 : mc_cd 279 56 = some (.iaload, 1) := by decide +kernel
theorem c279_57 : mc_cd 279 57 = some (.iconst 1, 1) := by decide +kernel
theorem c279_58 : mc_cd 279 58 = some (.isub, 1) := by decide +kernel
theorem c279_59 : mc_cd 279 59 = some (.aload_n 0, 1) := by decide +kernel
theorem c279_60 : mc_cd 279 60 = some (.aload_n 0, 1) := by decide +kernel
theorem c279_61 : mc_cd 279 61 = some (.getfield 39, 3) := by decide +kernel
theorem c279_64 : mc_cd 279 64 = some (.iload_n 1, 1) := by decide +kernel
theorem c279_65 : mc_cd 279 65 = some (.invokevirtual 386, 3) := by decide +kernel
theorem c279_68 : mc_cd 279 68 = some (.isub, 1) := by decide +kernel
theorem c279_69 : mc_cd 279 69 = some (.istore 6, 2) := by decide +kernel
theorem c279_71 : mc_cd 279 71 = some (.iload 5, 2) := by decide +kernel
theorem c279_73 : mc_cd 279 73 = some (.ifCond .eq 24, 3) := by decide +kernel
theorem c279_76 : mc_cd 279 76 = some (.iload_n 2, 1) := by decide +kernel
theorem c279_77 : mc_cd 279 77 = some (.ifCond .eq 13, 3) := by decide +kernel
theorem c279_80 : mc_cd 279 80 = some (.iload 6, 2) := by decide +kernel
theorem c279_82 : mc_cd 279 82 = some (.iload 4, 2) := by decide +kernel
theorem c279_84 : mc_cd 279 84 = some (.if_icmp .le 18, 3) := by decide +kernel
theorem c279_87 : mc_cd 279 87 = some (.goto 10, 3) := by decide +kernel
theorem c279_90 : mc_cd 279 90 = some (.iload 6, 2) := by decide +kernel
theorem c279_92 : mc_cd 279 92 = some (.iload 4, 2) := by decide +kernel
theorem c279_94 : mc_cd 279 94 = some (.if_icmp .ge 8, 3) := by decide +kernel
theorem c279_97 : mc_cd 279 97 = some (.iload 6, 2) := by decide +kernel
theorem c279_99 : mc_cd 279 99 = some (.goto 5, 3) := by decide +kernel
theorem c279_102 : mc_cd 279 102 = some (.iload 4, 2) := by decide +kernel
theorem c279_104 : mc_cd 279 104 = some (.istore 4, 2) := by decide +kernel
theorem c279_106 : mc_cd 279 106 = some (.iinc 5 1, 3) := by decide +kernel
theorem c279_109 : mc_cd 279 109 = some (.goto (-78), 3) := by decide +kernel
theorem c279_112 : mc_cd 279 112 = some (.aload_n 0, 1) := by decide +kernel
theorem c279_113 : mc_cd 279 113 = some (.iload 4, 2) := by decide +kernel
theorem c279_115 : mc_cd 279 115 = some (.invokevirtual 58, 3) := by decide +kernel
theorem c279_118 : mc_cd 279 118 = some (.ireturn, 1) := by decide +kernel
abbrev q_279 (r0 : Nat) (a1 : Int) (a2 : Int) (T : wq_T) (H : wq_H) : Option Value → wq_T → wq_H → Prop := fun r T' H' => T = T' ∧ WT T H' ∧ wfr [(42, 0), (42, 1), (42, 2), (42, 28), (42, 29), (51, 999), (52, 999)] T H H' ∧ ∃ z : Int, some (vI z) = r ∧ ((-2147483648) ≤ z ∧ z ≤ 2147483647) ∧ (wKI H' r0 = 1)
set_option maxHeartbeats 4000000 in
theorem s_279 {kt : Nat → Option mc_E} {T : wq_T} {H : wq_H} {r0 : Nat} {a1 : Int} {a2 : Int} (hW : WT T H) (g0 : T.2.2.2 r0 = some 42) (i1 : (-2147483648) ≤ a1 ∧ a1 ≤ 2147483647) (i2 : 0 ≤ a2 ∧ a2 ≤ 1) (p0 : wKI H r0 = 1) : wpc kt 9 279 [.ref r0, vI a1, vI a2] T H (q_279 r0 a1 a2 T H) := by
  refine wp_enter e279 (Nat.le_of_ble_eq_true rfl) rfl ?_
  have f0 : wfr [(42, 0), (42, 1), (42, 2), (42, 28), (42, 29), (51, 999), (52, 999)] T H H := wfr.rf
  show wp _ _ 279 0 [(0, .ref r0), (1, vI a1), (2, vI a2)] [] _ H _
  refine wp_of e279 c279_0 (rw_aload_n (pc' := 1) (v := .ref r0) rfl rfl rfl ?_)
  refine wp_of e279 c279_1 (rw_iconst (pc' := 2) rfl ?_)
  refine wp_of e279 c279_2 (xp_I (pc' := 5) lf_9_48 hW g0 sh_42 (by decide) (by decide) ty_42_0 rfl rfl (by omega) (by omega) ⟨by omega, by omega⟩ rfl (fun H210777 e210778 w210779 => ?_))
  have f210780 := f0.put' e210778 g0 rfl
  have k210781 : H210777 r0 0 = 0 := wq_u_s e210778
  refine wp_of e279 c279_5 (rw_aload_n (pc' := 6) (v := .ref r0) rfl rfl rfl ?_)
  refine wp_of e279 c279_6 (rw_aload_n (pc' := 7) (v := .ref r0) rfl rfl rfl ?_)
  refine wp_of e279 c279_7 (rw_iload_n (pc' := 8) (z := a1) rfl rfl ?_)
  refine wp_of e279 c279_8 (xc_V (pc' := 11) (r := r0) (as := [vI a1]) (st := [.ref r0]) (lm_9_487) rfl rfl (Nat.le_of_ble_eq_true rfl) w210779 g0 sh_42 (by decide) rfl (by decide) (s_280 w210779 g0 ⟨by omega, by omega⟩) (fun R210782 T210783 H210784 p210785 => ?_))
  obtain ⟨e210786, e210788, z210790, e210787, b210791, p210789⟩ := p210785
  subst e210786
  subst e210787
  subst e210788
  show wp _ _ 279 11 [(0, .ref r0), (1, vI a1), (2, vI a2)] [vI z210790, .ref r0] _ H210777 _
  have k210792 : wKI H210777 r0 = wKI H r0 := (wKI_fr hW g0 ((wfr.rf (l := [(42, 0)])).put' e210778 g0 rfl) rfl)
  refine wp_of e279 c279_11 (xc_V (pc' := 14) (r := r0) (as := [vI z210790]) (st := []) (lm_9_447) rfl rfl (Nat.le_of_ble_eq_true rfl) w210779 g0 sh_42 (by decide) rfl (by decide) (s_253 w210779 g0 ⟨by omega, by omega⟩ (by omega) (by omega)) (fun R210793 T210794 H210795 p210796 => ?_))
  obtain ⟨e210797, w210799, f210800, z210805, e210798, b210806, p210801, p210802, p210803, p210804⟩ := p210796
  subst e210797
  subst e210798
  have f210807 := f210780.tr f210800 rfl
  show wp _ _ 279 14 [(0, .ref r0), (1, vI a1), (2, vI a2)] [vI z210805] _ H210795 _
  refine wp_of e279 c279_14 (rw_istore_n (pc' := 15) (z := z210805) (L' := [(3, vI z210805), (0, .ref r0), (1, vI a1), (2, vI a2)]) rfl rfl rfl ?_)
  refine wp_of e279 c279_15 (rw_iload_n (pc' := 16) (z := z210805) rfl rfl ?_)
  refine wp_of e279 c279_16 (rw_if_le (p1 := 25) (p2 := 19) (by decide) rfl ⟨by omega, by omega⟩ (fun c210808 => ?_) (fun c210808 => ?_))
  · refine wp_of e279 c279_25 (rw_iconst (pc' := 26) rfl ?_)
    refine wp_of e279 c279_26 (rw_istore (pc' := 28) (z := 0) (L' := [(4, vI 0), (3, vI z210805), (0, .ref r0), (1, vI a1), (2, vI a2)]) rfl rfl rfl ?_)
    refine wp_of e279 c279_28 (rw_iconst (pc' := 29) rfl ?_)
    refine wp_of e279 c279_29 (rw_istore (pc' := 31) (z := 0) (L' := [(5, vI 0), (4, vI 0), (3, vI z210805), (0, .ref r0), (1, vI a1), (2, vI a2)]) rfl rfl rfl ?_)
    have lp211206 : ∀ (n211207 : Nat) (v211209 : Int) (v211210 : Int) (H211211 : wq_H), WT T H211211 → wfr [(51, 999)] T H210795 H211211 → (0 ≤ v211209 ∧ v211209 ≤ 20000) → ((-2147483648) ≤ v211210 ∧ v211210 ≤ 2147483647) → (20000 - v211209).toNat = n211207 → wp kt 8 279 31 [(5, vI v211209), (4, vI v211210), (0, .ref r0), (1, vI a1), (2, vI a2)] [] T H211211 (q_279 r0 a1 a2 T H) := by
      intro n211207
      induction n211207 using Nat.strongRecOn with
      | _ n211207 ih211208 =>
        intro v211209 v211210 H211211 w211212 f211213 b211214 b211215 m211216
        have f211217 := f210807.tr f211213 rfl
        refine wp_of e279 c279_31 (rw_iload (pc' := 33) (z := v211209) rfl rfl ?_)
        refine wp_of e279 c279_33 (rw_aload_n (pc' := 34) (v := .ref r0) rfl rfl rfl ?_)
        have k211218 : H211211 r0 29 = H210795 r0 29 := (f211213 r0 29 _ g0 rfl)
        refine wp_of e279 c279_34 (xg_I (pc' := 37) lf_9_422 w211212 g0 sh_42 (by decide) (by decide) ty_42_29 rfl rfl (fun b211219 b211220 => ?_))
        refine wp_of e279 c279_37 (rw_icmp_ge (p1 := 112) (p2 := 40) (by decide) rfl ⟨by omega, by omega⟩ ⟨by omega, by omega⟩ (fun c211221 => ?_) (fun c211221 => ?_))
        · refine wp_of e279 c279_112 (rw_aload_n (pc' := 113) (v := .ref r0) rfl rfl rfl ?_)
          refine wp_of e279 c279_113 (rw_iload (pc' := 115) (z := v211210) rfl rfl ?_)
          refine wp_of e279 c279_115 (xc_V (pc' := 118) (r := r0) (as := [vI v211210]) (st := []) (lm_9_58) rfl rfl (Nat.le_of_ble_eq_true rfl) w211212 g0 sh_42 (by decide) rfl (by decide) (s_209 w211212 g0 ⟨by omega, by omega⟩) (fun R211222 T211223 H211224 p211225 => ?_))
          obtain ⟨e211226, w211228, f211229, z211230, e211227, b211231⟩ := p211225
          subst e211226
          subst e211227
          have f211232 := f211217.tr f211229 rfl
          show wp _ _ 279 118 [(5, vI v211209), (4, vI v211210), (0, .ref r0), (1, vI a1), (2, vI a2)] [vI z211230] _ H211224 _
          have k211233 : wKI H211224 r0 = wKI H210795 r0 := ((wKI_fr w211212 g0 f211229 rfl).trans (wKI_fr w210799 g0 f211213 rfl))
          exact wp_ireturn e279 c279_118 rfl ⟨rfl, w211228, f211232, z211230, rfl, ⟨by omega, by omega⟩, by omega⟩
        · refine wp_of e279 c279_40 (rw_aload_n (pc' := 41) (v := .ref r0) rfl rfl rfl ?_)
          refine wp_of e279 c279_41 (rw_aload_n (pc' := 42) (v := .ref r0) rfl rfl rfl ?_)
          refine wp_of e279 c279_42 (xg_R (pc' := 45) lf_9_42 w211212 g0 sh_42 (by decide) (by decide) ty_42_30 rfl rfl (fun r211234 q211235 g211236 => ?_))
          refine wp_of e279 c279_45 (rw_iload (pc' := 47) (z := v211209) rfl rfl ?_)
          refine wp_of e279 c279_47 (xa_I (so := 0) (pc' := 48) w211212 g211236 sh_52 (by decide) (ty_52 _) (by omega) (by omega) rfl (fun b211237 b211238 => ?_))
          have k211239 : wLM H211211 r0 = wLM H210795 r0 := (wLM_fr w210799 g0 f211213 rfl)
          have k211240 : H211211 r0 3 = H210777 r0 3 := ((f211213 r0 3 _ g0 rfl).trans (f210800 r0 3 _ g0 rfl))
          obtain ⟨r211241, q211242, g211243⟩ := (w211212.opt g0 (t' := 54) (n := 33) (j := 3) (p := 0) (q := 0) rfl (by decide) rfl).resolve_left (by omega)
          refine wp_of e279 c279_48 (xc_V (pc' := 51) (r := r0) (as := [vI (H211211 r211234 (v211209.toNat))]) (st := []) (lm_9_425) rfl rfl (Nat.le_of_ble_eq_true rfl) w211212 g0 sh_42 (by decide) rfl (by decide) (s_243 w211212 g0 ⟨by omega, by omega⟩ q211242 g211243 (by omega)) (fun R211244 T211245 H211246 p211247 => ?_))
          obtain ⟨e211248, w211250, f211251, e211249⟩ := p211247
          subst e211248
          subst e211249
          have f211252 := f211217.tr f211251 rfl
          have f211253 := f211213.tr f211251 rfl
          show wp _ _ 279 51 [(5, vI v211209), (4, vI v211210), (0, .ref r0), (1, vI a1), (2, vI a2)] [] _ H211246 _
          refine wp_of e279 c279_51 (rw_aload_n (pc' := 52) (v := .ref r0) rfl rfl rfl ?_)
          refine wp_of e279 c279_52 (xg_R (pc' := 55) lf_9_17 w211250 g0 sh_42 (by decide) (by decide) ty_42_20 rfl rfl (fun r211254 q211255 g211256 => ?_))
          refine wp_of e279 c279_55 (rw_iload_n (pc' := 56) (z := a1) rfl rfl ?_)
          refine wp_of e279 c279_56 (xa_I (so := 0) (pc' := 57) w211250 g211256 sh_44 (by decide) (ty_44 _) (by omega) (by omega) rfl (fun b211257 b211258 => ?_))
          refine wp_of e279 c279_57 (rw_iconst (pc' := 58) rfl ?_)
          refine wp_of e279 c279_58 (rw_isubw (pc' := 59) rfl ?_)
          obtain ⟨v211259, e211260⟩ : ∃ x : Int, x = wq_w ((H211246 r211254 (a1.toNat)) - 1) := ⟨_, rfl⟩
          rw [← e211260]
          have b211261 : -2147483648 ≤ v211259 ∧ v211259 ≤ 2147483647 := by
            rw [e211260]
            exact wI_w _
          refine wp_of e279 c279_59 (rw_aload_n (pc' := 60) (v := .ref r0) rfl rfl rfl ?_)
          refine wp_of e279 c279_60 (rw_aload_n (pc' := 61) (v := .ref r0) rfl rfl rfl ?_)
          refine wp_of e279 c279_61 (xg_R (pc' := 64) lf_9_39 w211250 g0 sh_42 (by decide) (by decide) ty_42_27 rfl rfl (fun r211262 q211263 g211264 => ?_))
          refine wp_of e279 c279_64 (rw_iload_n (pc' := 65) (z := a1) rfl rfl ?_)
          have k211265 : H211246 r0 3 = H211211 r0 3 := (f211251 r0 3 _ g0 rfl)
          have q211266 : H211246 r0 3 = (r211241 : Int) := k211265.trans q211242
          refine wp_of e279 c279_65 (xc_V (pc' := 68) (r := r0) (as := [.ref r211262, vI a1]) (st := [vI v211259]) (lm_9_386) rfl rfl (Nat.le_of_ble_eq_true rfl) w211250 g0 sh_42 (by decide) rfl (by decide) (s_228_m_lot w211250 g0 g211264 ⟨by omega, by omega⟩ q211266 g211243) (fun R211267 T211268 H211269 p211270 => ?_))
          obtain ⟨e211271, e211273, z211274, e211272, b211275⟩ := p211270
          subst e211271
          subst e211272
          subst e211273
          show wp _ _ 279 68 [(5, vI v211209), (4, vI v211210), (0, .ref r0), (1, vI a1), (2, vI a2)] [vI z211274, vI v211259] _ H211246 _
          refine wp_of e279 c279_68 (rw_isubw (pc' := 69) rfl ?_)
          obtain ⟨v211276, e211277⟩ : ∃ x : Int, x = wq_w (v211259 - z211274) := ⟨_, rfl⟩
          rw [← e211277]
          have b211278 : -2147483648 ≤ v211276 ∧ v211276 ≤ 2147483647 := by
            rw [e211277]
            exact wI_w _
          refine wp_of e279 c279_69 (rw_istore (pc' := 71) (z := v211276) (L' := [(6, vI v211276), (5, vI v211209), (4, vI v211210), (0, .ref r0), (1, vI a1), (2, vI a2)]) rfl rfl rfl ?_)
          refine wp_of e279 c279_71 (rw_iload (pc' := 73) (z := v211209) rfl rfl ?_)
          refine wp_of e279 c279_73 (rw_if_eq (p1 := 97) (p2 := 76) (by decide) rfl ⟨by omega, by omega⟩ (fun c211279 => ?_) (fun c211279 => ?_))
          · refine wp_of e279 c279_97 (rw_iload (pc' := 99) (z := v211276) rfl rfl ?_)
            refine wp_of e279 c279_99 (rw_goto (p1 := 104) (by decide) ?_)
            refine wp_of e279 c279_104 (rw_istore (pc' := 106) (z := v211276) (L' := [(4, vI v211276), (6, vI v211276), (5, vI v211209), (0, .ref r0), (1, vI a1), (2, vI a2)]) rfl rfl rfl ?_)
            refine wp_of e279 c279_106 (rw_iinc (pc' := 109) (z := v211209) (L' := [(5, vI (v211209 + 1)), (4, vI v211276), (6, vI v211276), (0, .ref r0), (1, vI a1), (2, vI a2)]) rfl rfl rfl rfl ?_)
            refine wp_of e279 c279_109 (rw_goto (p1 := 31) (by decide) ?_)
            exact wp_lc (ks := [5, 4, 6, 0, 1, 2]) (wl_c rfl (wl_c rfl (wl_c rfl (wl_c rfl (wl_c rfl wl_n))))) rfl (by decide) (ih211208 _ (by omega) (v211209 + 1) v211276 H211246 w211250 f211253 ⟨by omega, by omega⟩ ⟨by omega, by omega⟩ rfl)
          · refine wp_of e279 c279_76 (rw_iload_n (pc' := 77) (z := a2) rfl rfl ?_)
            refine wp_of e279 c279_77 (rw_if_eq (p1 := 90) (p2 := 80) (by decide) rfl ⟨by omega, by omega⟩ (fun c211280 => ?_) (fun c211280 => ?_))
            · refine wp_of e279 c279_90 (rw_iload (pc' := 92) (z := v211276) rfl rfl ?_)
              refine wp_of e279 c279_92 (rw_iload (pc' := 94) (z := v211210) rfl rfl ?_)
              refine wp_of e279 c279_94 (rw_icmp_ge (p1 := 102) (p2 := 97) (by decide) rfl ⟨by omega, by omega⟩ ⟨by omega, by omega⟩ (fun c211281 => ?_) (fun c211281 => ?_))
              · refine wp_of e279 c279_102 (rw_iload (pc' := 104) (z := v211210) rfl rfl ?_)
                refine wp_of e279 c279_104 (rw_istore (pc' := 106) (z := v211210) (L' := [(4, vI v211210), (6, vI v211276), (5, vI v211209), (0, .ref r0), (1, vI a1), (2, vI a2)]) rfl rfl rfl ?_)
                refine wp_of e279 c279_106 (rw_iinc (pc' := 109) (z := v211209) (L' := [(5, vI (v211209 + 1)), (4, vI v211210), (6, vI v211276), (0, .ref r0), (1, vI a1), (2, vI a2)]) rfl rfl rfl rfl ?_)
                refine wp_of e279 c279_109 (rw_goto (p1 := 31) (by decide) ?_)
                exact wp_lc (ks := [5, 4, 6, 0, 1, 2]) (wl_c rfl (wl_c rfl (wl_c rfl (wl_c rfl (wl_c rfl wl_n))))) rfl (by decide) (ih211208 _ (by omega) (v211209 + 1) v211210 H211246 w211250 f211253 ⟨by omega, by omega⟩ ⟨by omega, by omega⟩ rfl)
              · refine wp_of e279 c279_97 (rw_iload (pc' := 99) (z := v211276) rfl rfl ?_)
                refine wp_of e279 c279_99 (rw_goto (p1 := 104) (by decide) ?_)
                refine wp_of e279 c279_104 (rw_istore (pc' := 106) (z := v211276) (L' := [(4, vI v211276), (6, vI v211276), (5, vI v211209), (0, .ref r0), (1, vI a1), (2, vI a2)]) rfl rfl rfl ?_)
                refine wp_of e279 c279_106 (rw_iinc (pc' := 109) (z := v211209) (L' := [(5, vI (v211209 + 1)), (4, vI v211276), (6, vI v211276), (0, .ref r0), (1, vI a1), (2, vI a2)]) rfl rfl rfl rfl ?_)
                refine wp_of e279 c279_109 (rw_goto (p1 := 31) (by decide) ?_)
                exact wp_lc (ks := [5, 4, 6, 0, 1, 2]) (wl_c rfl (wl_c rfl (wl_c rfl (wl_c rfl (wl_c rfl wl_n))))) rfl (by decide) (ih211208 _ (by omega) (v211209 + 1) v211276 H211246 w211250 f211253 ⟨by omega, by omega⟩ ⟨by omega, by omega⟩ rfl)
            · refine wp_of e279 c279_80 (rw_iload (pc' := 82) (z := v211276) rfl rfl ?_)
              refine wp_of e279 c279_82 (rw_iload (pc' := 84) (z := v211210) rfl rfl ?_)
              refine wp_of e279 c279_84 (rw_icmp_le (p1 := 102) (p2 := 87) (by decide) rfl ⟨by omega, by omega⟩ ⟨by omega, by omega⟩ (fun c211282 => ?_) (fun c211282 => ?_))
              · refine wp_of e279 c279_102 (rw_iload (pc' := 104) (z := v211210) rfl rfl ?_)
                refine wp_of e279 c279_104 (rw_istore (pc' := 106) (z := v211210) (L' := [(4, vI v211210), (6, vI v211276), (5, vI v211209), (0, .ref r0), (1, vI a1), (2, vI a2)]) rfl rfl rfl ?_)
                refine wp_of e279 c279_106 (rw_iinc (pc' := 109) (z := v211209) (L' := [(5, vI (v211209 + 1)), (4, vI v211210), (6, vI v211276), (0, .ref r0), (1, vI a1), (2, vI a2)]) rfl rfl rfl rfl ?_)
                refine wp_of e279 c279_109 (rw_goto (p1 := 31) (by decide) ?_)
                exact wp_lc (ks := [5, 4, 6, 0, 1, 2]) (wl_c rfl (wl_c rfl (wl_c rfl (wl_c rfl (wl_c rfl wl_n))))) rfl (by decide) (ih211208 _ (by omega) (v211209 + 1) v211210 H211246 w211250 f211253 ⟨by omega, by omega⟩ ⟨by omega, by omega⟩ rfl)
              · refine wp_of e279 c279_87 (rw_goto (p1 := 97) (by decide) ?_)
                refine wp_of e279 c279_97 (rw_iload (pc' := 99) (z := v211276) rfl rfl ?_)
                refine wp_of e279 c279_99 (rw_goto (p1 := 104) (by decide) ?_)
                refine wp_of e279 c279_104 (rw_istore (pc' := 106) (z := v211276) (L' := [(4, vI v211276), (6, vI v211276), (5, vI v211209), (0, .ref r0), (1, vI a1), (2, vI a2)]) rfl rfl rfl ?_)
                refine wp_of e279 c279_106 (rw_iinc (pc' := 109) (z := v211209) (L' := [(5, vI (v211209 + 1)), (4, vI v211276), (6, vI v211276), (0, .ref r0), (1, vI a1), (2, vI a2)]) rfl rfl rfl rfl ?_)
                refine wp_of e279 c279_109 (rw_goto (p1 := 31) (by decide) ?_)
                exact wp_lc (ks := [5, 4, 6, 0, 1, 2]) (wl_c rfl (wl_c rfl (wl_c rfl (wl_c rfl (wl_c rfl wl_n))))) rfl (by decide) (ih211208 _ (by omega) (v211209 + 1) v211276 H211246 w211250 f211253 ⟨by omega, by omega⟩ ⟨by omega, by omega⟩ rfl)
    exact wp_lc (ks := [5, 4, 3, 0, 1, 2]) (wl_c rfl (wl_c rfl (wl_c rfl (wl_c rfl (wl_c rfl wl_n))))) rfl (by decide) (lp211206 _ 0 0 H210795 w210799 wfr.rf ⟨by omega, by omega⟩ ⟨by omega, by omega⟩ rfl)
  · refine wp_of e279 c279_19 (rw_aload_n (pc' := 20) (v := .ref r0) rfl rfl rfl ?_)
    refine wp_of e279 c279_20 (rw_iload_n (pc' := 21) (z := z210805) rfl rfl ?_)
    refine wp_of e279 c279_21 (xc_V (pc' := 24) (r := r0) (as := [vI z210805]) (st := []) (lm_9_490) rfl rfl (Nat.le_of_ble_eq_true rfl) w210799 g0 sh_42 (by decide) rfl (by decide) (s_281 w210799 g0 ⟨by omega, by omega⟩) (fun R211283 T211284 H211285 p211286 => ?_))
    obtain ⟨e211287, w211289, f211290, z211291, e211288, b211292⟩ := p211286
    subst e211287
    subst e211288
    have f211293 := f210807.tr f211290 rfl
    show wp _ _ 279 24 [(3, vI z210805), (0, .ref r0), (1, vI a1), (2, vI a2)] [vI z211291] _ H211285 _
    have k211294 : wKI H211285 r0 = wKI H210795 r0 := (wKI_fr w210799 g0 f211290 rfl)
    exact wp_ireturn e279 c279_24 rfl ⟨rfl, w211289, f211293, z211291, rfl, ⟨by omega, by omega⟩, by omega⟩
/-! StrikeAwakeModel.nothing()I -/
theorem e282 : wq_en 282 = some (9, 5, false, some FieldType.int) := rfl
theorem c282_0 : mc_cd 282 0 = some (.aload_n 0, 1) := by decide +kernel
theorem c282_1 : mc_cd 282 1 = some (.iconst 0, 1) := by decide +kernel
theorem c282_2 : mc_cd 282 2 = some (.putfield 48, 3) := by decide +kernel
theorem c282_5 : mc_cd 282 5 = some (.aload_n 0, 1) := by decide +kernel
theorem c282_6 : mc_cd 282 6 = some (.aload_n 0, 1) := by decide +kernel
theorem c282_7 : mc_cd 282 7 = some (.getfield 337, 3) := by decide +kernel
theorem c282_10 : mc_cd 282 10 = some (.ifnull 7, 3) := by decide +kernel
theorem c282_13 : mc_cd 282 13 = some (.iconst 1, 1) := by decide +kernel
theorem c282_14 : mc_cd 282 14 = some (.goto 4, 3) := by decide +kernel
theorem c282_17 : mc_cd 282 17 = some (.iconst 0, 1) := by decide +kernel
theorem c282_18 : mc_cd 282 18 = some (.invokevirtual 433, 3) := by decide +kernel
theorem c282_21 : mc_cd 282 21 = some (.istore_n 1, 1) := by decide +kernel
theorem c282_22 : mc_cd 282 22 = some (.iload_n 1, 1) := by decide +kernel
theorem c282_23 : mc_cd 282 23 = some (.ifCond .le 9, 3) := by decide +kernel
theorem c282_26 : mc_cd 282 26 = some (.aload_n 0, 1) := by decide +kernel
theorem c282_27 : mc_cd 282 27 = some (.iload_n 1, 1) := by decide +kernel
theorem c282_28 : mc_cd 282 28 = some (.invokevirtual 54, 3) := by decide +kernel
theorem c282_31 : mc_cd 282 31 = some (.ireturn, 1) := by decide +kernel
theorem c282_32 : mc_cd 282 32 = some (.iconst 0, 1) := by decide +kernel
theorem c282_33 : mc_cd 282 33 = some (.istore_n 2, 1) := by decide +kernel
theorem c282_34 : mc_cd 282 34 = some (.iconst 0, 1) := by decide +kernel
theorem c282_35 : mc_cd 282 35 = some (.istore_n 3, 1) := by decide +kernel
theorem c282_36 : mc_cd 282 36 = some (.iload_n 3, 1) := by decide +kernel
theorem c282_37 : mc_cd 282 37 = some (.i2l, 1) := by decide +kernel
theorem c282_38 : mc_cd 282 38 = some (.aload_n 0, 1) := by decide +kernel
theorem c282_39 : mc_cd 282 39 = some (.invokevirtual 376, 3) := by decide +kernel
theorem c282_42 : mc_cd 282 42 = some (.lcmp, 1) := by decide +kernel
theorem c282_43 : mc_cd 282 43 = some (.ifCond .ge 73, 3) := by decide +kernel
theorem c282_46 : mc_cd 282 46 = some (.aload_n 0, 1) := by decide +kernel
theorem c282_47 : mc_cd 282 47 = some (.iload_n 3, 1) := by decide +kernel
theorem c282_48 : mc_cd 282 48 = some (.invokevirtual 425, 3) := by decide +kernel
theorem c282_51 : mc_cd 282 51 = some (.aload_n 0, 1) := by decide +kernel
theorem c282_52 : mc_cd 282 52 = some (.aload_n 0, 1) := by decide +kernel
theorem c282_53 : mc_cd 282 53 = some (.getfield 39, 3) := by decide +kernel
theorem c282_56 : mc_cd 282 56 = some (.invokevirtual 393, 3) := by decide +kernel
theorem c282_59 : mc_cd 282 59 = some (.ifCond .eq 6, 3) := by decide +kernel
theorem c282_62 : mc_cd 282 62 = some (.goto 48, 3) := by decide +kernel
theorem c282_65 : mc_cd 282 65 = some (.iconst 0, 1) := by decide +kernel
theorem c282_66 : mc_cd 282 66 = some (.istore 4, 2) := by decide +kernel
theorem c282_68 : mc_cd 282 68 = some (.iload 4, 2) := by decide +kernel
theorem c282_70 : mc_cd 282 70 = some (.aload_n 0, 1) := by decide +kernel
theorem c282_71 : mc_cd 282 71 = some (.getfield 337, 3) := by decide +kernel
theorem c282_74 : mc_cd 282 74 = some (.getfield 185, 3) := by decide +kernel
theorem c282_77 : mc_cd 282 77 = some (.if_icmp .ge 33, 3) := by decide +kernel
theorem c282_80 : mc_cd 282 80 = some (.iload_n 2, 1) := by decide +kernel
theorem c282_81 : mc_cd 282 81 = some (.aload_n 0, 1) := by decide +kernel
theorem c282_82 : mc_cd 282 82 = some (.aload_n 0, 1) := by decide +kernel
theorem c282_83 : mc_cd 282 83 = some (.getfield 39, 3) := by decide +kernel
theorem c282_86 : mc_cd 282 86 = some (.iload 4, 2) := by decide +kernel
theorem c282_88 : mc_cd 282 88 = some (.invokevirtual 386, 3) := by decide +kernel
theorem c282_91 : mc_cd 282 91 = some (.ifCond .ne 10, 3) := by decide +kernel
theorem c282_94 : mc_cd 282 94 = some (.iconst 1, 1) := by decide +kernel
theorem c282_95 : mc_cd 282 95 = some (.iload 4, 2) := by decide +kernel
theorem c282_97 : mc_cd 282 97 = some (.ishl, 1) := by decide +kernel
theorem c282_98 : mc_cd 282 98 = some (.goto 4, 3) := by decide +kernel
theorem c282_101 : mc_cd 282 101 = some (.iconst 0, 1) := by decide +kernel
theorem c282_102 : mc_cd 282 102 = some (.ior, 1) := by decide +kernel
theorem c282_103 : mc_cd 282 103 = some (.istore_n 2, 1) := by decide +kernel
theorem c282_104 : mc_cd 282 104 = some (.iinc 4 1, 3) := by decide +kernel
theorem c282_107 : mc_cd 282 107 = some (.goto (-39), 3) := by decide +kernel
theorem c282_110 : mc_cd 282 110 = some (.iinc 3 1, 3) := by decide +kernel
theorem c282_113 : mc_cd 282 113 = some (.goto (-77), 3) := by decide +kernel
theorem c282_116 : mc_cd 282 116 = some (.aload_n 0, 1) := by decide +kernel
theorem c282_117 : mc_cd 282 117 = some (.iload_n 2, 1) := by decide +kernel
theorem c282_118 : mc_cd 282 118 = some (.invokevirtual 58, 3) := by decide +kernel
theorem c282_121 : mc_cd 282 121 = some (.ireturn, 1) := by decide +kernel
abbrev q_282 (r0 : Nat) (T : wq_T) (H : wq_H) : Option Value → wq_T → wq_H → Prop := fun r T' H' => T = T' ∧ WT T H' ∧ wfr [(42, 0), (42, 1), (42, 2), (42, 28), (42, 29), (51, 999), (52, 999)] T H H' ∧ ∃ z : Int, some (vI z) = r ∧ ((-2147483648) ≤ z ∧ z ≤ 2147483647) ∧ (wKI H' r0 = 1)
set_option maxHeartbeats 4000000 in
theorem s_282 {kt : Nat → Option mc_E} {T : wq_T} {H : wq_H} {r0 : Nat} (hW : WT T H) (g0 : T.2.2.2 r0 = some 42) (p0 : wKI H r0 = 1) : wpc kt 8 282 [.ref r0] T H (q_282 r0 T H) := by
  refine wp_enter e282 (Nat.le_of_ble_eq_true rfl) rfl ?_
  have f0 : wfr [(42, 0), (42, 1), (42, 2), (42, 28), (42, 29), (51, 999), (52, 999)] T H H := wfr.rf
  show wp _ _ 282 0 [(0, .ref r0)] [] _ H _
  refine wp_of e282 c282_0 (rw_aload_n (pc' := 1) (v := .ref r0) rfl rfl rfl ?_)
  refine wp_of e282 c282_1 (rw_iconst (pc' := 2) rfl ?_)
  refine wp_of e282 c282_2 (xp_I (pc' := 5) lf_9_48 hW g0 sh_42 (by decide) (by decide) ty_42_0 rfl rfl (by omega) (by omega) ⟨by omega, by omega⟩ rfl (fun H213561 e213562 w213563 => ?_))
  have f213564 := f0.put' e213562 g0 rfl
  have k213565 : H213561 r0 0 = 0 := wq_u_s e213562
  refine wp_of e282 c282_5 (rw_aload_n (pc' := 6) (v := .ref r0) rfl rfl rfl ?_)
  refine wp_of e282 c282_6 (rw_aload_n (pc' := 7) (v := .ref r0) rfl rfl rfl ?_)
  refine wp_of e282 c282_7 (xg_O (pc' := 10) lf_9_337 w213563 g0 sh_42 (by decide) (by decide) ty_42_3 rfl rfl (fun q213567 => ?_) (fun r213566 q213567 g213568 => ?_))
  · refine wp_of e282 c282_10 (rw_ifnull_n (p1 := 17) (p2 := 13) (by decide) rfl ?_)
    refine wp_of e282 c282_17 (rw_iconst (pc' := 18) rfl ?_)
    have k213569 : wKI H213561 r0 = wKI H r0 := (wKI_fr hW g0 ((wfr.rf (l := [(42, 0)])).put' e213562 g0 rfl) rfl)
    refine wp_of e282 c282_18 (xc_V (pc' := 21) (r := r0) (as := [vI 0]) (st := []) (lm_9_433) rfl rfl (Nat.le_of_ble_eq_true rfl) w213563 g0 sh_42 (by decide) rfl (by decide) (s_241 w213563 g0 ⟨by omega, by omega⟩ (by omega) (by omega)) (fun R213570 T213571 H213572 p213573 => ?_))
    obtain ⟨e213574, w213576, f213577, z213582, e213575, b213583, p213578, p213579, p213580, p213581⟩ := p213573
    subst e213574
    subst e213575
    have f213584 := f213564.tr f213577 rfl
    show wp _ _ 282 21 [(0, .ref r0)] [vI z213582] _ H213572 _
    refine wp_of e282 c282_21 (rw_istore_n (pc' := 22) (z := z213582) (L' := [(1, vI z213582), (0, .ref r0)]) rfl rfl rfl ?_)
    refine wp_of e282 c282_22 (rw_iload_n (pc' := 23) (z := z213582) rfl rfl ?_)
    refine wp_of e282 c282_23 (rw_if_le (p1 := 32) (p2 := 26) (by decide) rfl ⟨by omega, by omega⟩ (fun c213585 => ?_) (fun c213585 => ?_))
    · exfalso
      omega
    · refine wp_of e282 c282_26 (rw_aload_n (pc' := 27) (v := .ref r0) rfl rfl rfl ?_)
      refine wp_of e282 c282_27 (rw_iload_n (pc' := 28) (z := z213582) rfl rfl ?_)
      refine wp_of e282 c282_28 (xc_V (pc' := 31) (r := r0) (as := [vI z213582]) (st := []) (lm_9_54) rfl rfl (Nat.le_of_ble_eq_true rfl) w213576 g0 sh_42 (by decide) rfl (by decide) (s_170 w213576 g0 ⟨by omega, by omega⟩) (fun R213586 T213587 H213588 p213589 => ?_))
      obtain ⟨e213590, w213592, f213593, z213594, e213591, b213595⟩ := p213589
      subst e213590
      subst e213591
      have f213596 := f213584.tr f213593 rfl
      show wp _ _ 282 31 [(1, vI z213582), (0, .ref r0)] [vI z213594] _ H213588 _
      have k213597 : wKI H213588 r0 = wKI H213572 r0 := (wKI_fr w213576 g0 f213593 rfl)
      exact wp_ireturn e282 c282_31 rfl ⟨rfl, w213592, f213596, z213594, rfl, ⟨by omega, by omega⟩, by omega⟩
  · refine wp_of e282 c282_10 (rw_ifnull_r (p1 := 17) (p2 := 13) (by decide) rfl ?_)
    refine wp_of e282 c282_13 (rw_iconst (pc' := 14) rfl ?_)
    refine wp_of e282 c282_14 (rw_goto (p1 := 18) (by decide) ?_)
    have k213598 : wKI H213561 r0 = wKI H r0 := (wKI_fr hW g0 ((wfr.rf (l := [(42, 0)])).put' e213562 g0 rfl) rfl)
    refine wp_of e282 c282_18 (xc_V (pc' := 21) (r := r0) (as := [vI 1]) (st := []) (lm_9_433) rfl rfl (Nat.le_of_ble_eq_true rfl) w213563 g0 sh_42 (by decide) rfl (by decide) (s_241 w213563 g0 ⟨by omega, by omega⟩ (by omega) (by omega)) (fun R213599 T213600 H213601 p213602 => ?_))
    obtain ⟨e213603, w213605, f213606, z213611, e213604, b213612, p213607, p213608, p213609, p213610⟩ := p213602
    subst e213603
    subst e213604
    have f213613 := f213564.tr f213606 rfl
    show wp _ _ 282 21 [(0, .ref r0)] [vI z213611] _ H213601 _
    refine wp_of e282 c282_21 (rw_istore_n (pc' := 22) (z := z213611) (L' := [(1, vI z213611), (0, .ref r0)]) rfl rfl rfl ?_)
    refine wp_of e282 c282_22 (rw_iload_n (pc' := 23) (z := z213611) rfl rfl ?_)
    refine wp_of e282 c282_23 (rw_if_le (p1 := 32) (p2 := 26) (by decide) rfl ⟨by omega, by omega⟩ (fun c213614 => ?_) (fun c213614 => ?_))
    · refine wp_of e282 c282_32 (rw_iconst (pc' := 33) rfl ?_)
      refine wp_of e282 c282_33 (rw_istore_n (pc' := 34) (z := 0) (L' := [(2, vI 0), (1, vI z213611), (0, .ref r0)]) rfl rfl rfl ?_)
      refine wp_of e282 c282_34 (rw_iconst (pc' := 35) rfl ?_)
      refine wp_of e282 c282_35 (rw_istore_n (pc' := 36) (z := 0) (L' := [(3, vI 0), (2, vI 0), (1, vI z213611), (0, .ref r0)]) rfl rfl rfl ?_)
      have lp215559 : ∀ (n215560 : Nat) (v215562 : Int) (v215563 : Int) (H215564 : wq_H), WT T H215564 → wfr [(51, 999)] T H213601 H215564 → (0 ≤ v215562 ∧ v215562 ≤ 20000) → (0 ≤ v215563 ∧ v215563 ≤ 16777215) → (20000 - v215562).toNat = n215560 → wp kt 7 282 36 [(3, vI v215562), (2, vI v215563), (0, .ref r0)] [] T H215564 (q_282 r0 T H) := by
        intro n215560
        induction n215560 using Nat.strongRecOn with
        | _ n215560 ih215561 =>
          intro v215562 v215563 H215564 w215565 f215566 b215567 b215568 m215569
          have f215570 := f213613.tr f215566 rfl
          refine wp_of e282 c282_36 (rw_iload_n (pc' := 37) (z := v215562) rfl rfl ?_)
          refine wp_of e282 c282_37 (rw_i2l (pc' := 38) rfl ⟨by omega, by omega⟩ ?_)
          refine wp_of e282 c282_38 (rw_aload_n (pc' := 39) (v := .ref r0) rfl rfl rfl ?_)
          have k215571 : wLM H215564 r0 = wLM H213601 r0 := (wLM_fr w213605 g0 f215566 rfl)
          have k215572 : H215564 r0 3 = H213561 r0 3 := ((f215566 r0 3 _ g0 rfl).trans (f213606 r0 3 _ g0 rfl))
          have q215573 : H215564 r0 3 = (r213566 : Int) := k215572.trans q213567
          refine wp_of e282 c282_39 (xc_V (pc' := 42) (r := r0) (as := []) (st := [vL v215562]) (lm_9_376) rfl rfl (Nat.le_of_ble_eq_true rfl) w215565 g0 sh_42 (by decide) rfl (by decide) (s_220 w215565 g0 q215573 g213568) (fun R215574 T215575 H215576 p215577 => ?_))
          obtain ⟨e215578, e215580, z215582, e215579, b215583, p215581⟩ := p215577
          subst e215578
          subst e215579
          subst e215580
          show wp _ _ 282 42 [(3, vI v215562), (2, vI v215563), (0, .ref r0)] [vL z215582, vL v215562] _ H215564 _
          refine wp_of e282 c282_42 (rw_lcmp (pc' := 43) rfl ⟨by omega, by omega⟩ ⟨by omega, by omega⟩ ?_)
          have b215584 := wq_cmp_b v215562 z215582
          refine wp_of e282 c282_43 (rw_if_ge (p1 := 116) (p2 := 46) (by decide) rfl ⟨by omega, by omega⟩ (fun c215585 => ?_) (fun c215585 => ?_))
          · refine wp_of e282 c282_116 (rw_aload_n (pc' := 117) (v := .ref r0) rfl rfl rfl ?_)
            refine wp_of e282 c282_117 (rw_iload_n (pc' := 118) (z := v215563) rfl rfl ?_)
            refine wp_of e282 c282_118 (xc_V (pc' := 121) (r := r0) (as := [vI v215563]) (st := []) (lm_9_58) rfl rfl (Nat.le_of_ble_eq_true rfl) w215565 g0 sh_42 (by decide) rfl (by decide) (s_209 w215565 g0 ⟨by omega, by omega⟩) (fun R215586 T215587 H215588 p215589 => ?_))
            obtain ⟨e215590, w215592, f215593, z215594, e215591, b215595⟩ := p215589
            subst e215590
            subst e215591
            have f215596 := f215570.tr f215593 rfl
            show wp _ _ 282 121 [(3, vI v215562), (2, vI v215563), (0, .ref r0)] [vI z215594] _ H215588 _
            have k215597 : wKI H215588 r0 = wKI H213601 r0 := ((wKI_fr w215565 g0 f215593 rfl).trans (wKI_fr w213605 g0 f215566 rfl))
            exact wp_ireturn e282 c282_121 rfl ⟨rfl, w215592, f215596, z215594, rfl, ⟨by omega, by omega⟩, by omega⟩
          · refine wp_of e282 c282_46 (rw_aload_n (pc' := 47) (v := .ref r0) rfl rfl rfl ?_)
            refine wp_of e282 c282_47 (rw_iload_n (pc' := 48) (z := v215562) rfl rfl ?_)
            refine wp_of e282 c282_48 (xc_V (pc' := 51) (r := r0) (as := [vI v215562]) (st := []) (lm_9_425) rfl rfl (Nat.le_of_ble_eq_true rfl) w215565 g0 sh_42 (by decide) rfl (by decide) (s_243 w215565 g0 ⟨by omega, by omega⟩ q215573 g213568 (by omega)) (fun R215598 T215599 H215600 p215601 => ?_))
            obtain ⟨e215602, w215604, f215605, e215603⟩ := p215601
            subst e215602
            subst e215603
            have f215606 := f215570.tr f215605 rfl
            have f215607 := f215566.tr f215605 rfl
            show wp _ _ 282 51 [(3, vI v215562), (2, vI v215563), (0, .ref r0)] [] _ H215600 _
            refine wp_of e282 c282_51 (rw_aload_n (pc' := 52) (v := .ref r0) rfl rfl rfl ?_)
            refine wp_of e282 c282_52 (rw_aload_n (pc' := 53) (v := .ref r0) rfl rfl rfl ?_)
            refine wp_of e282 c282_53 (xg_R (pc' := 56) lf_9_39 w215604 g0 sh_42 (by decide) (by decide) ty_42_27 rfl rfl (fun r215608 q215609 g215610 => ?_))
            have k215611 : H215600 r0 3 = H215564 r0 3 := (f215605 r0 3 _ g0 rfl)
            have q215612 : H215600 r0 3 = (r213566 : Int) := k215611.trans q215573
            refine wp_of e282 c282_56 (xc_V (pc' := 59) (r := r0) (as := [.ref r215608]) (st := []) (lm_9_393) rfl rfl (Nat.le_of_ble_eq_true rfl) w215604 g0 sh_42 (by decide) rfl (by decide) (s_235_m_lot w215604 g0 g215610 q215612 g213568) (fun R215613 T215614 H215615 p215616 => ?_))
            obtain ⟨e215617, e215619, z215620, e215618, b215621⟩ := p215616
            subst e215617
            subst e215618
            subst e215619
            show wp _ _ 282 59 [(3, vI v215562), (2, vI v215563), (0, .ref r0)] [vI z215620] _ H215600 _
            refine wp_of e282 c282_59 (rw_if_eq (p1 := 65) (p2 := 62) (by decide) rfl ⟨by omega, by omega⟩ (fun c215622 => ?_) (fun c215622 => ?_))
            · refine wp_of e282 c282_65 (rw_iconst (pc' := 66) rfl ?_)
              refine wp_of e282 c282_66 (rw_istore (pc' := 68) (z := 0) (L' := [(4, vI 0), (3, vI v215562), (2, vI v215563), (0, .ref r0)]) rfl rfl rfl ?_)
              have lp215807 : ∀ (n215808 : Nat) (v215810 : Int) (v215811 : Int), (0 ≤ v215810 ∧ v215810 ≤ 24) → (0 ≤ v215811 ∧ v215811 ≤ 16777215) → (24 - v215810).toNat = n215808 → wp kt 7 282 68 [(4, vI v215810), (2, vI v215811), (3, vI v215562), (0, .ref r0)] [] T H215600 (q_282 r0 T H) := by
                intro n215808
                induction n215808 using Nat.strongRecOn with
                | _ n215808 ih215809 =>
                  intro v215810 v215811 b215814 b215815 m215816
                  refine wp_of e282 c282_68 (rw_iload (pc' := 70) (z := v215810) rfl rfl ?_)
                  refine wp_of e282 c282_70 (rw_aload_n (pc' := 71) (v := .ref r0) rfl rfl rfl ?_)
                  refine wp_of e282 c282_71 (xg_K (pc' := 74) lf_9_337 w215604 g0 sh_42 (by decide) (by decide) rfl q215612 rfl ?_)
                  refine wp_of e282 c282_74 (xg_I (pc' := 77) lf_9_185 w215604 g213568 sh_54 (by decide) (by decide) ty_54_0 rfl rfl (fun b215817 b215818 => ?_))
                  refine wp_of e282 c282_77 (rw_icmp_ge (p1 := 110) (p2 := 80) (by decide) rfl ⟨by omega, by omega⟩ ⟨by omega, by omega⟩ (fun c215819 => ?_) (fun c215819 => ?_))
                  · refine wp_of e282 c282_110 (rw_iinc (pc' := 113) (z := v215562) (L' := [(3, vI (v215562 + 1)), (4, vI v215810), (2, vI v215811), (0, .ref r0)]) rfl rfl rfl rfl ?_)
                    refine wp_of e282 c282_113 (rw_goto (p1 := 36) (by decide) ?_)
                    exact wp_lc (ks := [3, 4, 2, 0]) (wl_c rfl (wl_c rfl (wl_c rfl wl_n))) rfl (by decide) (ih215561 _ (by omega) (v215562 + 1) v215811 H215600 w215604 f215607 ⟨by omega, by omega⟩ ⟨by omega, by omega⟩ rfl)
                  · refine wp_of e282 c282_80 (rw_iload_n (pc' := 81) (z := v215811) rfl rfl ?_)
                    refine wp_of e282 c282_81 (rw_aload_n (pc' := 82) (v := .ref r0) rfl rfl rfl ?_)
                    refine wp_of e282 c282_82 (rw_aload_n (pc' := 83) (v := .ref r0) rfl rfl rfl ?_)
                    refine wp_of e282 c282_83 (xg_K (pc' := 86) lf_9_39 w215604 g0 sh_42 (by decide) (by decide) rfl q215609 rfl ?_)
                    refine wp_of e282 c282_86 (rw_iload (pc' := 88) (z := v215810) rfl rfl ?_)
                    refine wp_of e282 c282_88 (xc_V (pc' := 91) (r := r0) (as := [.ref r215608, vI v215810]) (st := [vI v215811]) (lm_9_386) rfl rfl (Nat.le_of_ble_eq_true rfl) w215604 g0 sh_42 (by decide) rfl (by decide) (s_228_m_lot w215604 g0 g215610 ⟨by omega, by omega⟩ q215612 g213568) (fun R215820 T215821 H215822 p215823 => ?_))
                    obtain ⟨e215824, e215826, z215827, e215825, b215828⟩ := p215823
                    subst e215824
                    subst e215825
                    subst e215826
                    show wp _ _ 282 91 [(4, vI v215810), (2, vI v215811), (3, vI v215562), (0, .ref r0)] [vI z215827, vI v215811] _ H215600 _
                    refine wp_of e282 c282_91 (rw_if_ne (p1 := 101) (p2 := 94) (by decide) rfl ⟨by omega, by omega⟩ (fun c215829 => ?_) (fun c215829 => ?_))
                    · refine wp_of e282 c282_101 (rw_iconst (pc' := 102) rfl ?_)
                      refine wp_of e282 c282_102 (rw_ior (pc' := 103) rfl ?_)
                      obtain ⟨v215830, e215831⟩ : ∃ x : Int, x = wq_or v215811 0 := ⟨_, rfl⟩
                      rw [← e215831]
                      have b215832 : 0 ≤ v215830 ∧ v215830 ≤ 16777215 := by
                        rw [e215831]
                        exact wq_or_24 ⟨by omega, by omega⟩ ⟨by omega, by omega⟩
                      refine wp_of e282 c282_103 (rw_istore_n (pc' := 104) (z := v215830) (L' := [(2, vI v215830), (4, vI v215810), (3, vI v215562), (0, .ref r0)]) rfl rfl rfl ?_)
                      refine wp_of e282 c282_104 (rw_iinc (pc' := 107) (z := v215810) (L' := [(4, vI (v215810 + 1)), (2, vI v215830), (3, vI v215562), (0, .ref r0)]) rfl rfl rfl rfl ?_)
                      refine wp_of e282 c282_107 (rw_goto (p1 := 68) (by decide) ?_)
                      exact wp_lc (ks := [4, 2, 3, 0]) (wl_c rfl (wl_c rfl (wl_c rfl (wl_c rfl wl_n)))) rfl (by decide) (ih215809 _ (by omega) (v215810 + 1) v215830 ⟨by omega, by omega⟩ ⟨by omega, by omega⟩ rfl)
                    · refine wp_of e282 c282_94 (rw_iconst (pc' := 95) rfl ?_)
                      refine wp_of e282 c282_95 (rw_iload (pc' := 97) (z := v215810) rfl rfl ?_)
                      refine wp_of e282 c282_97 (rw_ishl (pc' := 98) rfl ?_)
                      obtain ⟨v215833, e215834⟩ : ∃ x : Int, x = wq_shl 1 v215810 := ⟨_, rfl⟩
                      rw [← e215834]
                      have b215835 : 1 ≤ v215833 ∧ v215833 ≤ 8388608 := by
                        rw [e215834]
                        exact wq_shl1_24 ⟨by omega, by omega⟩
                      refine wp_of e282 c282_98 (rw_goto (p1 := 102) (by decide) ?_)
                      refine wp_of e282 c282_102 (rw_ior (pc' := 103) rfl ?_)
                      obtain ⟨v215836, e215837⟩ : ∃ x : Int, x = wq_or v215811 v215833 := ⟨_, rfl⟩
                      rw [← e215837]
                      have b215838 : 0 ≤ v215836 ∧ v215836 ≤ 16777215 := by
                        rw [e215837]
                        exact wq_or_24 ⟨by omega, by omega⟩ ⟨by omega, by omega⟩
                      refine wp_of e282 c282_103 (rw_istore_n (pc' := 104) (z := v215836) (L' := [(2, vI v215836), (4, vI v215810), (3, vI v215562), (0, .ref r0)]) rfl rfl rfl ?_)
                      refine wp_of e282 c282_104 (rw_iinc (pc' := 107) (z := v215810) (L' := [(4, vI (v215810 + 1)), (2, vI v215836), (3, vI v215562), (0, .ref r0)]) rfl rfl rfl rfl ?_)
                      refine wp_of e282 c282_107 (rw_goto (p1 := 68) (by decide) ?_)
                      exact wp_lc (ks := [4, 2, 3, 0]) (wl_c rfl (wl_c rfl (wl_c rfl (wl_c rfl wl_n)))) rfl (by decide) (ih215809 _ (by omega) (v215810 + 1) v215836 ⟨by omega, by omega⟩ ⟨by omega, by omega⟩ rfl)
              exact wp_lc (ks := [4, 3, 2, 0]) (wl_c rfl (wl_c rfl (wl_c rfl (wl_c rfl wl_n)))) rfl (by decide) (lp215807 _ 0 v215563 ⟨by omega, by omega⟩ ⟨by omega, by omega⟩ rfl)
            · refine wp_of e282 c282_62 (rw_goto (p1 := 110) (by decide) ?_)
              refine wp_of e282 c282_110 (rw_iinc (pc' := 113) (z := v215562) (L' := [(3, vI (v215562 + 1)), (2, vI v215563), (0, .ref r0)]) rfl rfl rfl rfl ?_)
              refine wp_of e282 c282_113 (rw_goto (p1 := 36) (by decide) ?_)
              exact wp_lc (ks := [3, 2, 0]) (wl_c rfl (wl_c rfl (wl_c rfl wl_n))) rfl (by decide) (ih215561 _ (by omega) (v215562 + 1) v215563 H215600 w215604 f215607 ⟨by omega, by omega⟩ ⟨by omega, by omega⟩ rfl)
      exact wp_lc (ks := [3, 2, 1, 0]) (wl_c rfl (wl_c rfl (wl_c rfl wl_n))) rfl (by decide) (lp215559 _ 0 0 H213601 w213605 wfr.rf ⟨by omega, by omega⟩ ⟨by omega, by omega⟩ rfl)
    · refine wp_of e282 c282_26 (rw_aload_n (pc' := 27) (v := .ref r0) rfl rfl rfl ?_)
      refine wp_of e282 c282_27 (rw_iload_n (pc' := 28) (z := z213611) rfl rfl ?_)
      refine wp_of e282 c282_28 (xc_V (pc' := 31) (r := r0) (as := [vI z213611]) (st := []) (lm_9_54) rfl rfl (Nat.le_of_ble_eq_true rfl) w213605 g0 sh_42 (by decide) rfl (by decide) (s_170 w213605 g0 ⟨by omega, by omega⟩) (fun R215839 T215840 H215841 p215842 => ?_))
      obtain ⟨e215843, w215845, f215846, z215847, e215844, b215848⟩ := p215842
      subst e215843
      subst e215844
      have f215849 := f213613.tr f215846 rfl
      show wp _ _ 282 31 [(1, vI z213611), (0, .ref r0)] [vI z215847] _ H215841 _
      have k215850 : wKI H215841 r0 = wKI H213601 r0 := (wKI_fr w213605 g0 f215846 rfl)
      exact wp_ireturn e282 c282_31 rfl ⟨rfl, w215845, f215849, z215847, rfl, ⟨by omega, by omega⟩, by omega⟩
/-! StrikeAwakeModel.keep()I -/
theorem e283 : wq_en 283 = some (9, 5, false, some FieldType.int) := rfl
theorem c283_0 : mc_cd 283 0 = some (.aload_n 0, 1) := by decide +kernel
theorem c283_1 : mc_cd 283 1 = some (.iconst 0, 1) := by decide +kernel
theorem c283_2 : mc_cd 283 2 = some (.putfield 48, 3) := by decide +kernel
theorem c283_5 : mc_cd 283 5 = some (.aload_n 0, 1) := by decide +kernel
theorem c283_6 : mc_cd 283 6 = some (.getfield 337, 3) := by decide +kernel
theorem c283_9 : mc_cd 283 9 = some (.ifnonnull 9, 3) := by decide +kernel
theorem c283_12 : mc_cd 283 12 = some (.aload_n 0, 1) := by decide +kernel
theorem c283_13 : mc_cd 283 13 = some (.iconst 1, 1) := by decide +kernel
theorem c283_14 : mc_cd 283 14 = some (.invokevirtual 54, 3) := by decide +kernel
theorem c283_17 : mc_cd 283 17 = some (.ireturn, 1) := by decide +kernel
theorem c283_18 : mc_cd 283 18 = some (.bipush (-2), 2) := by decide +kernel
theorem c283_20 : mc_cd 283 20 = some (.istore_n 1, 1) := by decide +kernel
theorem c283_21 : mc_cd 283 21 = some (.iconst 0, 1) := by decide +kernel
theorem c283_22 : mc_cd 283 22 = some (.istore_n 2, 1) := by decide +kernel
theorem c283_23 : mc_cd 283 23 = some (.iload_n 2, 1) := by decide +kernel
theorem c283_24 : mc_cd 283 24 = some (.iconst 1, 1) := by decide +kernel
theorem c283_25 : mc_cd 283 25 = some (.aload_n 0, 1) := by decide +kernel
theorem c283_26 : mc_cd 283 26 = some (.getfield 337, 3) := by decide +kernel
theorem c283_29 : mc_cd 283 29 = some (.getfield 321, 3) := by decide +kernel
theorem c283_32 : mc_cd 283 32 = some (.ishl, 1) := by decide +kernel
theorem c283_33 : mc_cd 283 33 = some (.if_icmp .ge 88, 3) := by decide +kernel
theorem c283_36 : mc_cd 283 36 = some (.iconst 0, 1) := by decide +kernel
theorem c283_37 : mc_cd 283 37 = some (.istore_n 3, 1) := by decide +kernel
theorem c283_38 : mc_cd 283 38 = some (.iconst 0, 1) := by decide +kernel
theorem c283_39 : mc_cd 283 39 = some (.istore 4, 2) := by decide +kernel
theorem c283_41 : mc_cd 283 41 = some (.iload 4, 2) := by decide +kernel
theorem c283_43 : mc_cd 283 43 = some (.aload_n 0, 1) := by decide +kernel
theorem c283_44 : mc_cd 283 44 = some (.getfield 337, 3) := by decide +kernel
theorem c283_47 : mc_cd 283 47 = some (.getfield 321, 3) := by decide +kernel
theorem c283_50 : mc_cd 283 50 = some (.if_icmp .ge 35, 3) := by decide +kernel
theorem c283_53 : mc_cd 283 53 = some (.iload_n 3, 1) := by decide +kernel
theorem c283_54 : mc_cd 283 54 = some (.iload_n 2, 1) := by decide +kernel
theorem c283_55 : mc_cd 283 55 = some (.iload 4, 2) := by decide +kernel
theorem c283_57 : mc_cd 283 57 = some (.invokestatic 346, 3) := by decide +kernel
theorem c283_60 : mc_cd 283 60 = some (.ifCond .eq 16, 3) := by decide +kernel
theorem c283_63 : mc_cd 283 63 = some (.aload_n 0, 1) := by decide +kernel
theorem c283_64 : mc_cd 283 64 = some (.getfield 337, 3) := by decide +kernel
theorem c283_67 : mc_cd 283 67 = some (.getfield 327, 3) := by decide +kernel
theorem c283_70 : mc_cd 283 70 = some (.iload 4, 2) := by decide +kernel
theorem c283_72 : mc_cd 283 72 = some (.iaload, 1) := by decide +kernel
theorem c283_73 : mc_cd 283 73 = some (.goto 4, 3) := by decide +kernel
theorem c283_76 : mc_cd 283 76 = some (.iconst 0, 1) := by decide +kernel
theorem c283_77 : mc_cd 283 77 = some (.ior, 1) := by decide +kernel
theorem c283_78 : mc_cd 283 78 = some (.istore_n 3, 1) := by decide +kernel
theorem c283_79 : mc_cd 283 79 = some (.iinc 4 1, 3) := by decide +kernel
theorem c283_82 : mc_cd 283 82 = some (.goto (-41), 3) := by decide +kernel
theorem c283_85 : mc_cd 283 85 = some (.aload_n 0, 1) := by decide +kernel
theorem c283_86 : mc_cd 283 86 = some (.getfield 343, 3) := by decide +kernel
theorem c283_89 : mc_cd 283 89 = some (.iload_n 3, 1) := by decide +kernel
theorem c283_90 : mc_cd 283 90 = some (.iconst (-1), 1) := by decide +kernel
theorem c283_91 : mc_cd 283 91 = some (.ixor, 1) := by decide +kernel
theorem c283_92 : mc_cd 283 92 = some (.iand, 1) := by decide +kernel
theorem c283_93 : mc_cd 283 93 = some (.ifCond .ne 22, 3) := by decide +kernel
theorem c283_96 : mc_cd 283 96 = some (.iload_n 1, 1) := by decide +kernel
theorem c283_97 : mc_cd 283 97 = some (.bipush (-2), 2) := by decide +kernel
theorem c283_99 : mc_cd 283 99 = some (.if_icmp .eq 14, 3) := by decide +kernel
theorem c283_102 : mc_cd 283 102 = some (.iload_n 2, 1) := by decide +kernel
theorem c283_103 : mc_cd 283 103 = some (.invokestatic 462, 3) := by decide +kernel
theorem c283_106 : mc_cd 283 106 = some (.iload_n 1, 1) := by decide +kernel
theorem c283_107 : mc_cd 283 107 = some (.invokestatic 462, 3) := by decide +kernel
theorem c283_110 : mc_cd 283 110 = some (.if_icmp .ge 5, 3) := by decide +kernel
theorem c283_113 : mc_cd 283 113 = some (.iload_n 2, 1) := by decide +kernel
theorem c283_114 : mc_cd 283 114 = some (.istore_n 1, 1) := by decide +kernel
theorem c283_115 : mc_cd 283 115 = some (.iinc 2 1, 3) := by decide +kernel
theorem c283_118 : mc_cd 283 118 = some (.goto (-95), 3) := by decide +kernel
theorem c283_121 : mc_cd 283 121 = some (.aload_n 0, 1) := by decide +kernel
theorem c283_122 : mc_cd 283 122 = some (.iload_n 1, 1) := by decide +kernel
theorem c283_123 : mc_cd 283 123 = some (.invokevirtual 58, 3) := by decide +kernel
theorem c283_126 : mc_cd 283 126 = some (.ireturn, 1) := by decide +kernel
abbrev q_283 (r0 : Nat) (T : wq_T) (H : wq_H) : Option Value → wq_T → wq_H → Prop := fun r T' H' => T = T' ∧ WT T H' ∧ wfr [(42, 0), (42, 1), (42, 2)] T H H' ∧ ∃ z : Int, some (vI z) = r ∧ ((-2147483648) ≤ z ∧ z ≤ 2147483647) ∧ (wKI H' r0 = 1)
set_option maxHeartbeats 4000000 in
theorem s_283 {kt : Nat → Option mc_E} {T : wq_T} {H : wq_H} {r0 : Nat} (hW : WT T H) (g0 : T.2.2.2 r0 = some 42) (p0 : wKI H r0 = 1) : wpc kt 2 283 [.ref r0] T H (q_283 r0 T H) := by
  refine wp_enter e283 (Nat.le_of_ble_eq_true rfl) rfl ?_
  have f0 : wfr [(42, 0), (42, 1), (42, 2)] T H H := wfr.rf
  show wp _ _ 283 0 [(0, .ref r0)] [] _ H _
  refine wp_of e283 c283_0 (rw_aload_n (pc' := 1) (v := .ref r0) rfl rfl rfl ?_)
  refine wp_of e283 c283_1 (rw_iconst (pc' := 2) rfl ?_)
  refine wp_of e283 c283_2 (xp_I (pc' := 5) lf_9_48 hW g0 sh_42 (by decide) (by decide) ty_42_0 rfl rfl (by omega) (by omega) ⟨by omega, by omega⟩ rfl (fun H217951 e217952 w217953 => ?_))
  have f217954 := f0.put' e217952 g0 rfl
  have k217955 : H217951 r0 0 = 0 := wq_u_s e217952
  refine wp_of e283 c283_5 (rw_aload_n (pc' := 6) (v := .ref r0) rfl rfl rfl ?_)
  refine wp_of e283 c283_6 (xg_O (pc' := 9) lf_9_337 w217953 g0 sh_42 (by decide) (by decide) ty_42_3 rfl rfl (fun q217957 => ?_) (fun r217956 q217957 g217958 => ?_))
  · refine wp_of e283 c283_9 (rw_ifnonnull_n (p1 := 18) (p2 := 12) (by decide) rfl ?_)
    refine wp_of e283 c283_12 (rw_aload_n (pc' := 13) (v := .ref r0) rfl rfl rfl ?_)
    refine wp_of e283 c283_13 (rw_iconst (pc' := 14) rfl ?_)
    refine wp_of e283 c283_14 (xc_V (pc' := 17) (r := r0) (as := [vI 1]) (st := []) (lm_9_54) rfl rfl (Nat.le_of_ble_eq_true rfl) w217953 g0 sh_42 (by decide) rfl (by decide) (s_170 w217953 g0 ⟨by omega, by omega⟩) (fun R217959 T217960 H217961 p217962 => ?_))
    obtain ⟨e217963, w217965, f217966, z217967, e217964, b217968⟩ := p217962
    subst e217963
    subst e217964
    have f217969 := f217954.tr f217966 rfl
    show wp _ _ 283 17 [(0, .ref r0)] [vI z217967] _ H217961 _
    have k217970 : wKI H217961 r0 = wKI H r0 := ((wKI_fr w217953 g0 f217966 rfl).trans (wKI_fr hW g0 ((wfr.rf (l := [(42, 0)])).put' e217952 g0 rfl) rfl))
    exact wp_ireturn e283 c283_17 rfl ⟨rfl, w217965, f217969, z217967, rfl, ⟨by omega, by omega⟩, by omega⟩
  · refine wp_of e283 c283_9 (rw_ifnonnull_r (p1 := 18) (p2 := 12) (by decide) rfl ?_)
    refine wp_of e283 c283_18 (rw_bipush (pc' := 20) (z := -2) rfl (by decide) ?_)
    refine wp_of e283 c283_20 (rw_istore_n (pc' := 21) (z := -2) (L' := [(1, vI (-2)), (0, .ref r0)]) rfl rfl rfl ?_)
    refine wp_of e283 c283_21 (rw_iconst (pc' := 22) rfl ?_)
    refine wp_of e283 c283_22 (rw_istore_n (pc' := 23) (z := 0) (L' := [(2, vI 0), (1, vI (-2)), (0, .ref r0)]) rfl rfl rfl ?_)
    have lp219808 : ∀ (n219809 : Nat) (v219811 : Int) (v219812 : Int), (0 ≤ v219811 ∧ v219811 ≤ 64) → ((-2) ≤ v219812 ∧ v219812 ≤ 64) → (v219812 = -2 ∨ 0 ≤ v219812) → (64 - v219811).toNat = n219809 → wp kt 1 283 23 [(2, vI v219811), (1, vI v219812), (0, .ref r0)] [] T H217951 (q_283 r0 T H) := by
      intro n219809
      induction n219809 using Nat.strongRecOn with
      | _ n219809 ih219810 =>
        intro v219811 v219812 b219815 b219816 x219817 m219818
        refine wp_of e283 c283_23 (rw_iload_n (pc' := 24) (z := v219811) rfl rfl ?_)
        refine wp_of e283 c283_24 (rw_iconst (pc' := 25) rfl ?_)
        refine wp_of e283 c283_25 (rw_aload_n (pc' := 26) (v := .ref r0) rfl rfl rfl ?_)
        refine wp_of e283 c283_26 (xg_K (pc' := 29) lf_9_337 w217953 g0 sh_42 (by decide) (by decide) rfl q217957 rfl ?_)
        refine wp_of e283 c283_29 (xg_I (pc' := 32) lf_9_321 w217953 g217958 sh_54 (by decide) (by decide) ty_54_7 rfl rfl (fun b219819 b219820 => ?_))
        refine wp_of e283 c283_32 (rw_ishl (pc' := 33) rfl ?_)
        obtain ⟨v219821, e219822⟩ : ∃ x : Int, x = wq_shl 1 (H217951 r217956 7) := ⟨_, rfl⟩
        rw [← e219822]
        have b219823 : 1 ≤ v219821 ∧ v219821 ≤ 64 := by
          rw [e219822]
          exact wq_shl1_6 ⟨by omega, by omega⟩
        refine wp_of e283 c283_33 (rw_icmp_ge (p1 := 121) (p2 := 36) (by decide) rfl ⟨by omega, by omega⟩ ⟨by omega, by omega⟩ (fun c219824 => ?_) (fun c219824 => ?_))
        · refine wp_of e283 c283_121 (rw_aload_n (pc' := 122) (v := .ref r0) rfl rfl rfl ?_)
          refine wp_of e283 c283_122 (rw_iload_n (pc' := 123) (z := v219812) rfl rfl ?_)
          refine wp_of e283 c283_123 (xc_V (pc' := 126) (r := r0) (as := [vI v219812]) (st := []) (lm_9_58) rfl rfl (Nat.le_of_ble_eq_true rfl) w217953 g0 sh_42 (by decide) rfl (by decide) (s_209 w217953 g0 ⟨by omega, by omega⟩) (fun R219825 T219826 H219827 p219828 => ?_))
          obtain ⟨e219829, w219831, f219832, z219833, e219830, b219834⟩ := p219828
          subst e219829
          subst e219830
          have f219835 := f217954.tr f219832 rfl
          show wp _ _ 283 126 [(2, vI v219811), (1, vI v219812), (0, .ref r0)] [vI z219833] _ H219827 _
          have k219836 : wKI H219827 r0 = wKI H r0 := ((wKI_fr w217953 g0 f219832 rfl).trans (wKI_fr hW g0 ((wfr.rf (l := [(42, 0)])).put' e217952 g0 rfl) rfl))
          exact wp_ireturn e283 c283_126 rfl ⟨rfl, w219831, f219835, z219833, rfl, ⟨by omega, by omega⟩, by omega⟩
        · refine wp_of e283 c283_36 (rw_iconst (pc' := 37) rfl ?_)
          refine wp_of e283 c283_37 (rw_istore_n (pc' := 38) (z := 0) (L' := [(3, vI 0), (2, vI v219811), (1, vI v219812), (0, .ref r0)]) rfl rfl rfl ?_)
          refine wp_of e283 c283_38 (rw_iconst (pc' := 39) rfl ?_)
          refine wp_of e283 c283_39 (rw_istore (pc' := 41) (z := 0) (L' := [(4, vI 0), (3, vI 0), (2, vI v219811), (1, vI v219812), (0, .ref r0)]) rfl rfl rfl ?_)
          have lp220012 : ∀ (n220013 : Nat) (v220015 : Int) (v220016 : Int), (0 ≤ v220015 ∧ v220015 ≤ 6) → ((-2147483648) ≤ v220016 ∧ v220016 ≤ 2147483647) → (6 - v220015).toNat = n220013 → wp kt 1 283 41 [(4, vI v220015), (3, vI v220016), (2, vI v219811), (1, vI v219812), (0, .ref r0)] [] T H217951 (q_283 r0 T H) := by
            intro n220013
            induction n220013 using Nat.strongRecOn with
            | _ n220013 ih220014 =>
              intro v220015 v220016 b220019 b220020 m220021
              refine wp_of e283 c283_41 (rw_iload (pc' := 43) (z := v220015) rfl rfl ?_)
              refine wp_of e283 c283_43 (rw_aload_n (pc' := 44) (v := .ref r0) rfl rfl rfl ?_)
              refine wp_of e283 c283_44 (xg_K (pc' := 47) lf_9_337 w217953 g0 sh_42 (by decide) (by decide) rfl q217957 rfl ?_)
              refine wp_of e283 c283_47 (xg_I (pc' := 50) lf_9_321 w217953 g217958 sh_54 (by decide) (by decide) ty_54_7 rfl rfl (fun b220022 b220023 => ?_))
              refine wp_of e283 c283_50 (rw_icmp_ge (p1 := 85) (p2 := 53) (by decide) rfl ⟨by omega, by omega⟩ ⟨by omega, by omega⟩ (fun c220024 => ?_) (fun c220024 => ?_))
              · refine wp_of e283 c283_85 (rw_aload_n (pc' := 86) (v := .ref r0) rfl rfl rfl ?_)
                refine wp_of e283 c283_86 (xg_I (pc' := 89) lf_9_343 w217953 g0 sh_42 (by decide) (by decide) ty_42_19 rfl rfl (fun b220025 b220026 => ?_))
                refine wp_of e283 c283_89 (rw_iload_n (pc' := 90) (z := v220016) rfl rfl ?_)
                refine wp_of e283 c283_90 (rw_iconst (pc' := 91) rfl ?_)
                refine wp_of e283 c283_91 (rw_ixor (pc' := 92) rfl ?_)
                obtain ⟨v220027, e220028⟩ : ∃ x : Int, x = wq_xor v220016 (-1) := ⟨_, rfl⟩
                rw [← e220028]
                have b220029 : -2147483648 ≤ v220027 ∧ v220027 ≤ 2147483647 := by
                  rw [e220028]
                  exact wI_xor _ _
                refine wp_of e283 c283_92 (rw_iand (pc' := 93) rfl ?_)
                obtain ⟨v220030, e220031⟩ : ∃ x : Int, x = wq_and (H217951 r0 19) v220027 := ⟨_, rfl⟩
                rw [← e220031]
                have b220032 : -2147483648 ≤ v220030 ∧ v220030 ≤ 2147483647 := by
                  rw [e220031]
                  exact wI_and _ _
                refine wp_of e283 c283_93 (rw_if_ne (p1 := 115) (p2 := 96) (by decide) rfl ⟨by omega, by omega⟩ (fun c220033 => ?_) (fun c220033 => ?_))
                · refine wp_of e283 c283_115 (rw_iinc (pc' := 118) (z := v219811) (L' := [(2, vI (v219811 + 1)), (4, vI v220015), (3, vI v220016), (1, vI v219812), (0, .ref r0)]) rfl rfl rfl rfl ?_)
                  refine wp_of e283 c283_118 (rw_goto (p1 := 23) (by decide) ?_)
                  exact wp_lc (ks := [2, 4, 3, 1, 0]) (wl_c rfl (wl_c rfl (wl_c rfl wl_n))) rfl (by decide) (ih219810 _ (by omega) (v219811 + 1) v219812 ⟨by omega, by omega⟩ ⟨by omega, by omega⟩ (by omega) rfl)
                · refine wp_of e283 c283_96 (rw_iload_n (pc' := 97) (z := v219812) rfl rfl ?_)
                  refine wp_of e283 c283_97 (rw_bipush (pc' := 99) (z := -2) rfl (by decide) ?_)
                  refine wp_of e283 c283_99 (rw_icmp_eq (p1 := 113) (p2 := 102) (by decide) rfl ⟨by omega, by omega⟩ ⟨by omega, by omega⟩ (fun c220034 => ?_) (fun c220034 => ?_))
                  · refine wp_of e283 c283_113 (rw_iload_n (pc' := 114) (z := v219811) rfl rfl ?_)
                    refine wp_of e283 c283_114 (rw_istore_n (pc' := 115) (z := v219811) (L' := [(1, vI v219811), (4, vI v220015), (3, vI v220016), (2, vI v219811), (0, .ref r0)]) rfl rfl rfl ?_)
                    refine wp_of e283 c283_115 (rw_iinc (pc' := 118) (z := v219811) (L' := [(2, vI (v219811 + 1)), (1, vI v219811), (4, vI v220015), (3, vI v220016), (0, .ref r0)]) rfl rfl rfl rfl ?_)
                    refine wp_of e283 c283_118 (rw_goto (p1 := 23) (by decide) ?_)
                    exact wp_lc (ks := [2, 1, 4, 3, 0]) (wl_c rfl (wl_c rfl (wl_c rfl wl_n))) rfl (by decide) (ih219810 _ (by omega) (v219811 + 1) v219811 ⟨by omega, by omega⟩ ⟨by omega, by omega⟩ (by omega) rfl)
                  · refine wp_of e283 c283_102 (rw_iload_n (pc' := 103) (z := v219811) rfl rfl ?_)
                    refine wp_of e283 c283_103 (xc_S (pc' := 106) (as := [vI v219811]) (st := []) (lm_9_462) rfl rfl (Nat.le_of_ble_eq_true rfl) rfl (by decide) (s_269 w217953 ⟨by omega, by omega⟩) (fun R220035 T220036 H220037 p220038 => ?_))
                    obtain ⟨e220039, e220041, z220042, e220040, b220043⟩ := p220038
                    subst e220039
                    subst e220040
                    subst e220041
                    show wp _ _ 283 106 [(4, vI v220015), (3, vI v220016), (2, vI v219811), (1, vI v219812), (0, .ref r0)] [vI z220042] _ H217951 _
                    refine wp_of e283 c283_106 (rw_iload_n (pc' := 107) (z := v219812) rfl rfl ?_)
                    refine wp_of e283 c283_107 (xc_S (pc' := 110) (as := [vI v219812]) (st := [vI z220042]) (lm_9_462) rfl rfl (Nat.le_of_ble_eq_true rfl) rfl (by decide) (s_269 w217953 ⟨by omega, by omega⟩) (fun R220044 T220045 H220046 p220047 => ?_))
                    obtain ⟨e220048, e220050, z220051, e220049, b220052⟩ := p220047
                    subst e220048
                    subst e220049
                    subst e220050
                    show wp _ _ 283 110 [(4, vI v220015), (3, vI v220016), (2, vI v219811), (1, vI v219812), (0, .ref r0)] [vI z220051, vI z220042] _ H217951 _
                    refine wp_of e283 c283_110 (rw_icmp_ge (p1 := 115) (p2 := 113) (by decide) rfl ⟨by omega, by omega⟩ ⟨by omega, by omega⟩ (fun c220053 => ?_) (fun c220053 => ?_))
                    · refine wp_of e283 c283_115 (rw_iinc (pc' := 118) (z := v219811) (L' := [(2, vI (v219811 + 1)), (4, vI v220015), (3, vI v220016), (1, vI v219812), (0, .ref r0)]) rfl rfl rfl rfl ?_)
                      refine wp_of e283 c283_118 (rw_goto (p1 := 23) (by decide) ?_)
                      exact wp_lc (ks := [2, 4, 3, 1, 0]) (wl_c rfl (wl_c rfl (wl_c rfl wl_n))) rfl (by decide) (ih219810 _ (by omega) (v219811 + 1) v219812 ⟨by omega, by omega⟩ ⟨by omega, by omega⟩ (by omega) rfl)
                    · refine wp_of e283 c283_113 (rw_iload_n (pc' := 114) (z := v219811) rfl rfl ?_)
                      refine wp_of e283 c283_114 (rw_istore_n (pc' := 115) (z := v219811) (L' := [(1, vI v219811), (4, vI v220015), (3, vI v220016), (2, vI v219811), (0, .ref r0)]) rfl rfl rfl ?_)
                      refine wp_of e283 c283_115 (rw_iinc (pc' := 118) (z := v219811) (L' := [(2, vI (v219811 + 1)), (1, vI v219811), (4, vI v220015), (3, vI v220016), (0, .ref r0)]) rfl rfl rfl rfl ?_)
                      refine wp_of e283 c283_118 (rw_goto (p1 := 23) (by decide) ?_)
                      exact wp_lc (ks := [2, 1, 4, 3, 0]) (wl_c rfl (wl_c rfl (wl_c rfl wl_n))) rfl (by decide) (ih219810 _ (by omega) (v219811 + 1) v219811 ⟨by omega, by omega⟩ ⟨by omega, by omega⟩ (by omega) rfl)
              · refine wp_of e283 c283_53 (rw_iload_n (pc' := 54) (z := v220016) rfl rfl ?_)
                refine wp_of e283 c283_54 (rw_iload_n (pc' := 55) (z := v219811) rfl rfl ?_)
                refine wp_of e283 c283_55 (rw_iload (pc' := 57) (z := v220015) rfl rfl ?_)
                refine wp_of e283 c283_57 (xc_S (pc' := 60) (as := [vI v219811, vI v220015]) (st := [vI v220016]) (lm_9_346) rfl rfl (Nat.le_of_ble_eq_true rfl) rfl (by decide) (s_205 w217953 ⟨by omega, by omega⟩ ⟨by omega, by omega⟩) (fun R220054 T220055 H220056 p220057 => ?_))
                obtain ⟨e220058, e220060, z220061, e220059, b220062⟩ := p220057
                subst e220058
                subst e220059
                subst e220060
                show wp _ _ 283 60 [(4, vI v220015), (3, vI v220016), (2, vI v219811), (1, vI v219812), (0, .ref r0)] [vI z220061, vI v220016] _ H217951 _
                refine wp_of e283 c283_60 (rw_if_eq (p1 := 76) (p2 := 63) (by decide) rfl ⟨by omega, by omega⟩ (fun c220063 => ?_) (fun c220063 => ?_))
                · refine wp_of e283 c283_76 (rw_iconst (pc' := 77) rfl ?_)
                  refine wp_of e283 c283_77 (rw_ior (pc' := 78) rfl ?_)
                  obtain ⟨v220064, e220065⟩ : ∃ x : Int, x = wq_or v220016 0 := ⟨_, rfl⟩
                  rw [← e220065]
                  have b220066 : -2147483648 ≤ v220064 ∧ v220064 ≤ 2147483647 := by
                    rw [e220065]
                    exact wI_or _ _
                  refine wp_of e283 c283_78 (rw_istore_n (pc' := 79) (z := v220064) (L' := [(3, vI v220064), (4, vI v220015), (2, vI v219811), (1, vI v219812), (0, .ref r0)]) rfl rfl rfl ?_)
                  refine wp_of e283 c283_79 (rw_iinc (pc' := 82) (z := v220015) (L' := [(4, vI (v220015 + 1)), (3, vI v220064), (2, vI v219811), (1, vI v219812), (0, .ref r0)]) rfl rfl rfl rfl ?_)
                  refine wp_of e283 c283_82 (rw_goto (p1 := 41) (by decide) ?_)
                  exact wp_lc (ks := [4, 3, 2, 1, 0]) (wl_c rfl (wl_c rfl (wl_c rfl (wl_c rfl (wl_c rfl wl_n))))) rfl (by decide) (ih220014 _ (by omega) (v220015 + 1) v220064 ⟨by omega, by omega⟩ ⟨by omega, by omega⟩ rfl)
                · refine wp_of e283 c283_63 (rw_aload_n (pc' := 64) (v := .ref r0) rfl rfl rfl ?_)
                  refine wp_of e283 c283_64 (xg_K (pc' := 67) lf_9_337 w217953 g0 sh_42 (by decide) (by decide) rfl q217957 rfl ?_)
                  refine wp_of e283 c283_67 (xg_R (pc' := 70) lf_9_327 w217953 g217958 sh_54 (by decide) (by decide) ty_54_26 rfl rfl (fun r220067 q220068 g220069 => ?_))
                  refine wp_of e283 c283_70 (rw_iload (pc' := 72) (z := v220015) rfl rfl ?_)
                  refine wp_of e283 c283_72 (xa_I (so := 0) (pc' := 73) w217953 g220069 sh_72 (by decide) (ty_72 _) (by omega) (by omega) rfl (fun b220070 b220071 => ?_))
                  refine wp_of e283 c283_73 (rw_goto (p1 := 77) (by decide) ?_)
                  refine wp_of e283 c283_77 (rw_ior (pc' := 78) rfl ?_)
                  obtain ⟨v220072, e220073⟩ : ∃ x : Int, x = wq_or v220016 (H217951 r220067 (v220015.toNat)) := ⟨_, rfl⟩
                  rw [← e220073]
                  have b220074 : -2147483648 ≤ v220072 ∧ v220072 ≤ 2147483647 := by
                    rw [e220073]
                    exact wI_or _ _
                  refine wp_of e283 c283_78 (rw_istore_n (pc' := 79) (z := v220072) (L' := [(3, vI v220072), (4, vI v220015), (2, vI v219811), (1, vI v219812), (0, .ref r0)]) rfl rfl rfl ?_)
                  refine wp_of e283 c283_79 (rw_iinc (pc' := 82) (z := v220015) (L' := [(4, vI (v220015 + 1)), (3, vI v220072), (2, vI v219811), (1, vI v219812), (0, .ref r0)]) rfl rfl rfl rfl ?_)
                  refine wp_of e283 c283_82 (rw_goto (p1 := 41) (by decide) ?_)
                  exact wp_lc (ks := [4, 3, 2, 1, 0]) (wl_c rfl (wl_c rfl (wl_c rfl (wl_c rfl (wl_c rfl wl_n))))) rfl (by decide) (ih220014 _ (by omega) (v220015 + 1) v220072 ⟨by omega, by omega⟩ ⟨by omega, by omega⟩ rfl)
          exact wp_lc (ks := [4, 3, 2, 1, 0]) (wl_c rfl (wl_c rfl (wl_c rfl (wl_c rfl (wl_c rfl wl_n))))) rfl (by decide) (lp220012 _ 0 0 ⟨by omega, by omega⟩ ⟨by omega, by omega⟩ rfl)
    exact wp_lc (ks := [2, 1, 0]) (wl_c rfl (wl_c rfl (wl_c rfl wl_n))) rfl (by decide) (lp219808 _ 0 (-2) ⟨by omega, by omega⟩ ⟨by omega, by omega⟩ (by omega) rfl)
/-! StrikeAwakeModel.quiet(I)I -/
theorem e284 : wq_en 284 = some (9, 4, false, some FieldType.int) := rfl
theorem c284_0 : mc_cd 284 0 = some (.aload_n 0, 1) := by decide +kernel
theorem c284_1 : mc_cd 284 1 = some (.iconst 0, 1) := by decide +kernel
theorem c284_2 : mc_cd 284 2 = some (.putfield 48, 3) := by decide +kernel
theorem c284_5 : mc_cd 284 5 = some (.aload_n 0, 1) := by decide +kernel
theorem c284_6 : mc_cd 284 6 = some (.getfield 337, 3) := by decide +kernel
theorem c284_9 : mc_cd 284 9 = some (.ifnonnull 9, 3) := by decide +kernel
theorem c284_12 : mc_cd 284 12 = some (.aload_n 0, 1) := by decide +kernel
theorem c284_13 : mc_cd 284 13 = some (.iconst 1, 1) := by decide +kernel
theorem c284_14 : mc_cd 284 14 = some (.invokevirtual 54, 3) := by decide +kernel
theorem c284_17 : mc_cd 284 17 = some (.ireturn, 1) := by decide +kernel
theorem c284_18 : mc_cd 284 18 = some (.iload_n 1, 1) := by decide +kernel
theorem c284_19 : mc_cd 284 19 = some (.iconst 0, 1) := by decide +kernel
theorem c284_20 : mc_cd 284 20 = some (.bipush 99, 2) := by decide +kernel
theorem c284_22 : mc_cd 284 22 = some (.invokestatic 125, 3) := by decide +kernel
theorem c284_25 : mc_cd 284 25 = some (.ifCond .ne 9, 3) := by decide +kernel
theorem c284_28 : mc_cd 284 28 = some (.aload_n 0, 1) := by decide +kernel
theorem c284_29 : mc_cd 284 29 = some (.iconst 2, 1) := by decide +kernel
theorem c284_30 : mc_cd 284 30 = some (.invokevirtual 54, 3) := by decide +kernel
theorem c284_33 : mc_cd 284 33 = some (.ireturn, 1) := by decide +kernel
theorem c284_34 : mc_cd 284 34 = some (.iconst 0, 1) := by decide +kernel
theorem c284_35 : mc_cd 284 35 = some (.istore_n 2, 1) := by decide +kernel
theorem c284_36 : mc_cd 284 36 = some (.iconst 0, 1) := by decide +kernel
theorem c284_37 : mc_cd 284 37 = some (.istore_n 3, 1) := by decide +kernel
theorem c284_38 : mc_cd 284 38 = some (.iload_n 3, 1) := by decide +kernel
theorem c284_39 : mc_cd 284 39 = some (.aload_n 0, 1) := by decide +kernel
theorem c284_40 : mc_cd 284 40 = some (.getfield 337, 3) := by decide +kernel
theorem c284_43 : mc_cd 284 43 = some (.getfield 185, 3) := by decide +kernel
theorem c284_46 : mc_cd 284 46 = some (.if_icmp .ge 40, 3) := by decide +kernel
theorem c284_49 : mc_cd 284 49 = some (.iload_n 2, 1) := by decide +kernel
theorem c284_50 : mc_cd 284 50 = some (.aload_n 0, 1) := by decide +kernel
theorem c284_51 : mc_cd 284 51 = some (.getfield 17, 3) := by decide +kernel
theorem c284_54 : mc_cd 284 54 = some (.iload_n 3, 1) := by decide +kernel
theorem c284_55 : mc_cd 284 55 = some (.iaload, 1) := by decide +kernel
theorem c284_56 : mc_cd 284 56 = some (.ifCond .le 21, 3) := by decide +kernel
theorem c284_59 : mc_cd 284 59 = some (.aload_n 0, 1) := by decide +kernel
theorem c284_60 : mc_cd 284 60 = some (.getfield 17, 3) := by decide +kernel
theorem c284_63 : mc_cd 284 63 = some (.iload_n 3, 1) := by decide +kernel
theorem c284_64 : mc_cd 284 64 = some (.iaload, 1) := by decide +kernel
theorem c284_65 : mc_cd 284 65 = some (.iconst 1, 1) := by decide +kernel
theorem c284_66 : mc_cd 284 66 = some (.isub, 1) := by decide +kernel
theorem c284_67 : mc_cd 284 67 = some (.iload_n 1, 1) := by decide +kernel
theorem c284_68 : mc_cd 284 68 = some (.if_icmp .gt 9, 3) := by decide +kernel
theorem c284_71 : mc_cd 284 71 = some (.iconst 1, 1) := by decide +kernel
theorem c284_72 : mc_cd 284 72 = some (.iload_n 3, 1) := by decide +kernel
theorem c284_73 : mc_cd 284 73 = some (.ishl, 1) := by decide +kernel
theorem c284_74 : mc_cd 284 74 = some (.goto 4, 3) := by decide +kernel
theorem c284_77 : mc_cd 284 77 = some (.iconst 0, 1) := by decide +kernel
theorem c284_78 : mc_cd 284 78 = some (.ior, 1) := by decide +kernel
theorem c284_79 : mc_cd 284 79 = some (.istore_n 2, 1) := by decide +kernel
theorem c284_80 : mc_cd 284 80 = some (.iinc 3 1, 3) := by decide +kernel
theorem c284_83 : mc_cd 284 83 = some (.goto (-45), 3) := by decide +kernel
theorem c284_86 : mc_cd 284 86 = some (.aload_n 0, 1) := by decide +kernel
theorem c284_87 : mc_cd 284 87 = some (.iload_n 2, 1) := by decide +kernel
theorem c284_88 : mc_cd 284 88 = some (.invokevirtual 58, 3) := by decide +kernel
theorem c284_91 : mc_cd 284 91 = some (.ireturn, 1) := by decide +kernel
abbrev q_284 (r0 : Nat) (a1 : Int) (T : wq_T) (H : wq_H) : Option Value → wq_T → wq_H → Prop := fun r T' H' => T = T' ∧ WT T H' ∧ wfr [(42, 0), (42, 1), (42, 2)] T H H' ∧ ∃ z : Int, some (vI z) = r ∧ ((-2147483648) ≤ z ∧ z ≤ 2147483647) ∧ (wKI H' r0 = 1)
set_option maxHeartbeats 4000000 in
theorem s_284 {kt : Nat → Option mc_E} {T : wq_T} {H : wq_H} {r0 : Nat} {a1 : Int} (hW : WT T H) (g0 : T.2.2.2 r0 = some 42) (i1 : (-2147483648) ≤ a1 ∧ a1 ≤ 2147483647) (p0 : wKI H r0 = 1) : wpc kt 2 284 [.ref r0, vI a1] T H (q_284 r0 a1 T H) := by
  refine wp_enter e284 (Nat.le_of_ble_eq_true rfl) rfl ?_
  have f0 : wfr [(42, 0), (42, 1), (42, 2)] T H H := wfr.rf
  show wp _ _ 284 0 [(0, .ref r0), (1, vI a1)] [] _ H _
  refine wp_of e284 c284_0 (rw_aload_n (pc' := 1) (v := .ref r0) rfl rfl rfl ?_)
  refine wp_of e284 c284_1 (rw_iconst (pc' := 2) rfl ?_)
  refine wp_of e284 c284_2 (xp_I (pc' := 5) lf_9_48 hW g0 sh_42 (by decide) (by decide) ty_42_0 rfl rfl (by omega) (by omega) ⟨by omega, by omega⟩ rfl (fun H220327 e220328 w220329 => ?_))
  have f220330 := f0.put' e220328 g0 rfl
  have k220331 : H220327 r0 0 = 0 := wq_u_s e220328
  refine wp_of e284 c284_5 (rw_aload_n (pc' := 6) (v := .ref r0) rfl rfl rfl ?_)
  refine wp_of e284 c284_6 (xg_O (pc' := 9) lf_9_337 w220329 g0 sh_42 (by decide) (by decide) ty_42_3 rfl rfl (fun q220333 => ?_) (fun r220332 q220333 g220334 => ?_))
  · refine wp_of e284 c284_9 (rw_ifnonnull_n (p1 := 18) (p2 := 12) (by decide) rfl ?_)
    refine wp_of e284 c284_12 (rw_aload_n (pc' := 13) (v := .ref r0) rfl rfl rfl ?_)
    refine wp_of e284 c284_13 (rw_iconst (pc' := 14) rfl ?_)
    refine wp_of e284 c284_14 (xc_V (pc' := 17) (r := r0) (as := [vI 1]) (st := []) (lm_9_54) rfl rfl (Nat.le_of_ble_eq_true rfl) w220329 g0 sh_42 (by decide) rfl (by decide) (s_170 w220329 g0 ⟨by omega, by omega⟩) (fun R220335 T220336 H220337 p220338 => ?_))
    obtain ⟨e220339, w220341, f220342, z220343, e220340, b220344⟩ := p220338
    subst e220339
    subst e220340
    have f220345 := f220330.tr f220342 rfl
    show wp _ _ 284 17 [(0, .ref r0), (1, vI a1)] [vI z220343] _ H220337 _
    have k220346 : wKI H220337 r0 = wKI H r0 := ((wKI_fr w220329 g0 f220342 rfl).trans (wKI_fr hW g0 ((wfr.rf (l := [(42, 0)])).put' e220328 g0 rfl) rfl))
    exact wp_ireturn e284 c284_17 rfl ⟨rfl, w220341, f220345, z220343, rfl, ⟨by omega, by omega⟩, by omega⟩
  · refine wp_of e284 c284_9 (rw_ifnonnull_r (p1 := 18) (p2 := 12) (by decide) rfl ?_)
    refine wp_of e284 c284_18 (rw_iload_n (pc' := 19) (z := a1) rfl rfl ?_)
    refine wp_of e284 c284_19 (rw_iconst (pc' := 20) rfl ?_)
    refine wp_of e284 c284_20 (rw_bipush (pc' := 22) (z := 99) rfl (by decide) ?_)
    refine wp_of e284 c284_22 (xc_S (pc' := 25) (as := [vI a1, vI 0, vI 99]) (st := []) (lm_9_125) rfl rfl (Nat.le_of_ble_eq_true rfl) rfl (by decide) (s_186 w220329 ⟨by omega, by omega⟩ ⟨by omega, by omega⟩ ⟨by omega, by omega⟩) (fun R220347 T220348 H220349 p220350 => ?_))
    obtain ⟨e220351, e220353, z220355, e220352, b220356, p220354⟩ := p220350
    subst e220351
    subst e220352
    subst e220353
    show wp _ _ 284 25 [(0, .ref r0), (1, vI a1)] [vI z220355] _ H220327 _
    refine wp_of e284 c284_25 (rw_if_ne (p1 := 34) (p2 := 28) (by decide) rfl ⟨by omega, by omega⟩ (fun c220357 => ?_) (fun c220357 => ?_))
    · refine wp_of e284 c284_34 (rw_iconst (pc' := 35) rfl ?_)
      refine wp_of e284 c284_35 (rw_istore_n (pc' := 36) (z := 0) (L' := [(2, vI 0), (0, .ref r0), (1, vI a1)]) rfl rfl rfl ?_)
      refine wp_of e284 c284_36 (rw_iconst (pc' := 37) rfl ?_)
      refine wp_of e284 c284_37 (rw_istore_n (pc' := 38) (z := 0) (L' := [(3, vI 0), (2, vI 0), (0, .ref r0), (1, vI a1)]) rfl rfl rfl ?_)
      have lp220534 : ∀ (n220535 : Nat) (v220537 : Int) (v220538 : Int), (0 ≤ v220537 ∧ v220537 ≤ 24) → (0 ≤ v220538 ∧ v220538 ≤ 16777215) → (24 - v220537).toNat = n220535 → wp kt 1 284 38 [(3, vI v220537), (2, vI v220538), (0, .ref r0), (1, vI a1)] [] T H220327 (q_284 r0 a1 T H) := by
        intro n220535
        induction n220535 using Nat.strongRecOn with
        | _ n220535 ih220536 =>
          intro v220537 v220538 b220541 b220542 m220543
          refine wp_of e284 c284_38 (rw_iload_n (pc' := 39) (z := v220537) rfl rfl ?_)
          refine wp_of e284 c284_39 (rw_aload_n (pc' := 40) (v := .ref r0) rfl rfl rfl ?_)
          refine wp_of e284 c284_40 (xg_K (pc' := 43) lf_9_337 w220329 g0 sh_42 (by decide) (by decide) rfl q220333 rfl ?_)
          refine wp_of e284 c284_43 (xg_I (pc' := 46) lf_9_185 w220329 g220334 sh_54 (by decide) (by decide) ty_54_0 rfl rfl (fun b220544 b220545 => ?_))
          refine wp_of e284 c284_46 (rw_icmp_ge (p1 := 86) (p2 := 49) (by decide) rfl ⟨by omega, by omega⟩ ⟨by omega, by omega⟩ (fun c220546 => ?_) (fun c220546 => ?_))
          · refine wp_of e284 c284_86 (rw_aload_n (pc' := 87) (v := .ref r0) rfl rfl rfl ?_)
            refine wp_of e284 c284_87 (rw_iload_n (pc' := 88) (z := v220538) rfl rfl ?_)
            refine wp_of e284 c284_88 (xc_V (pc' := 91) (r := r0) (as := [vI v220538]) (st := []) (lm_9_58) rfl rfl (Nat.le_of_ble_eq_true rfl) w220329 g0 sh_42 (by decide) rfl (by decide) (s_209 w220329 g0 ⟨by omega, by omega⟩) (fun R220547 T220548 H220549 p220550 => ?_))
            obtain ⟨e220551, w220553, f220554, z220555, e220552, b220556⟩ := p220550
            subst e220551
            subst e220552
            have f220557 := f220330.tr f220554 rfl
            show wp _ _ 284 91 [(3, vI v220537), (2, vI v220538), (0, .ref r0), (1, vI a1)] [vI z220555] _ H220549 _
            have k220558 : wKI H220549 r0 = wKI H r0 := ((wKI_fr w220329 g0 f220554 rfl).trans (wKI_fr hW g0 ((wfr.rf (l := [(42, 0)])).put' e220328 g0 rfl) rfl))
            exact wp_ireturn e284 c284_91 rfl ⟨rfl, w220553, f220557, z220555, rfl, ⟨by omega, by omega⟩, by omega⟩
          · refine wp_of e284 c284_49 (rw_iload_n (pc' := 50) (z := v220538) rfl rfl ?_)
            refine wp_of e284 c284_50 (rw_aload_n (pc' := 51) (v := .ref r0) rfl rfl rfl ?_)
            refine wp_of e284 c284_51 (xg_R (pc' := 54) lf_9_17 w220329 g0 sh_42 (by decide) (by decide) ty_42_20 rfl rfl (fun r220559 q220560 g220561 => ?_))
            refine wp_of e284 c284_54 (rw_iload_n (pc' := 55) (z := v220537) rfl rfl ?_)
            refine wp_of e284 c284_55 (xa_I (so := 0) (pc' := 56) w220329 g220561 sh_44 (by decide) (ty_44 _) (by omega) (by omega) rfl (fun b220562 b220563 => ?_))
            refine wp_of e284 c284_56 (rw_if_le (p1 := 77) (p2 := 59) (by decide) rfl ⟨by omega, by omega⟩ (fun c220564 => ?_) (fun c220564 => ?_))
            · refine wp_of e284 c284_77 (rw_iconst (pc' := 78) rfl ?_)
              refine wp_of e284 c284_78 (rw_ior (pc' := 79) rfl ?_)
              obtain ⟨v220565, e220566⟩ : ∃ x : Int, x = wq_or v220538 0 := ⟨_, rfl⟩
              rw [← e220566]
              have b220567 : 0 ≤ v220565 ∧ v220565 ≤ 16777215 := by
                rw [e220566]
                exact wq_or_24 ⟨by omega, by omega⟩ ⟨by omega, by omega⟩
              refine wp_of e284 c284_79 (rw_istore_n (pc' := 80) (z := v220565) (L' := [(2, vI v220565), (3, vI v220537), (0, .ref r0), (1, vI a1)]) rfl rfl rfl ?_)
              refine wp_of e284 c284_80 (rw_iinc (pc' := 83) (z := v220537) (L' := [(3, vI (v220537 + 1)), (2, vI v220565), (0, .ref r0), (1, vI a1)]) rfl rfl rfl rfl ?_)
              refine wp_of e284 c284_83 (rw_goto (p1 := 38) (by decide) ?_)
              exact wp_lc (ks := [3, 2, 0, 1]) (wl_c rfl (wl_c rfl (wl_c rfl (wl_c rfl wl_n)))) rfl (by decide) (ih220536 _ (by omega) (v220537 + 1) v220565 ⟨by omega, by omega⟩ ⟨by omega, by omega⟩ rfl)
            · refine wp_of e284 c284_59 (rw_aload_n (pc' := 60) (v := .ref r0) rfl rfl rfl ?_)
              refine wp_of e284 c284_60 (xg_K (pc' := 63) lf_9_17 w220329 g0 sh_42 (by decide) (by decide) rfl q220560 rfl ?_)
              refine wp_of e284 c284_63 (rw_iload_n (pc' := 64) (z := v220537) rfl rfl ?_)
              refine wp_of e284 c284_64 (xa_I (so := 0) (pc' := 65) w220329 g220561 sh_44 (by decide) (ty_44 _) (by omega) (by omega) rfl (fun b220568 b220569 => ?_))
              refine wp_of e284 c284_65 (rw_iconst (pc' := 66) rfl ?_)
              refine wp_of e284 c284_66 (rw_isub (pc' := 67) rfl ?_)
              refine wp_of e284 c284_67 (rw_iload_n (pc' := 68) (z := a1) rfl rfl ?_)
              refine wp_of e284 c284_68 (rw_icmp_gt (p1 := 77) (p2 := 71) (by decide) rfl ⟨by omega, by omega⟩ ⟨by omega, by omega⟩ (fun c220570 => ?_) (fun c220570 => ?_))
              · refine wp_of e284 c284_77 (rw_iconst (pc' := 78) rfl ?_)
                refine wp_of e284 c284_78 (rw_ior (pc' := 79) rfl ?_)
                obtain ⟨v220571, e220572⟩ : ∃ x : Int, x = wq_or v220538 0 := ⟨_, rfl⟩
                rw [← e220572]
                have b220573 : 0 ≤ v220571 ∧ v220571 ≤ 16777215 := by
                  rw [e220572]
                  exact wq_or_24 ⟨by omega, by omega⟩ ⟨by omega, by omega⟩
                refine wp_of e284 c284_79 (rw_istore_n (pc' := 80) (z := v220571) (L' := [(2, vI v220571), (3, vI v220537), (0, .ref r0), (1, vI a1)]) rfl rfl rfl ?_)
                refine wp_of e284 c284_80 (rw_iinc (pc' := 83) (z := v220537) (L' := [(3, vI (v220537 + 1)), (2, vI v220571), (0, .ref r0), (1, vI a1)]) rfl rfl rfl rfl ?_)
                refine wp_of e284 c284_83 (rw_goto (p1 := 38) (by decide) ?_)
                exact wp_lc (ks := [3, 2, 0, 1]) (wl_c rfl (wl_c rfl (wl_c rfl (wl_c rfl wl_n)))) rfl (by decide) (ih220536 _ (by omega) (v220537 + 1) v220571 ⟨by omega, by omega⟩ ⟨by omega, by omega⟩ rfl)
              · refine wp_of e284 c284_71 (rw_iconst (pc' := 72) rfl ?_)
                refine wp_of e284 c284_72 (rw_iload_n (pc' := 73) (z := v220537) rfl rfl ?_)
                refine wp_of e284 c284_73 (rw_ishl (pc' := 74) rfl ?_)
                obtain ⟨v220574, e220575⟩ : ∃ x : Int, x = wq_shl 1 v220537 := ⟨_, rfl⟩
                rw [← e220575]
                have b220576 : 1 ≤ v220574 ∧ v220574 ≤ 8388608 := by
                  rw [e220575]
                  exact wq_shl1_24 ⟨by omega, by omega⟩
                refine wp_of e284 c284_74 (rw_goto (p1 := 78) (by decide) ?_)
                refine wp_of e284 c284_78 (rw_ior (pc' := 79) rfl ?_)
                obtain ⟨v220577, e220578⟩ : ∃ x : Int, x = wq_or v220538 v220574 := ⟨_, rfl⟩
                rw [← e220578]
                have b220579 : 0 ≤ v220577 ∧ v220577 ≤ 16777215 := by
                  rw [e220578]
                  exact wq_or_24 ⟨by omega, by omega⟩ ⟨by omega, by omega⟩
                refine wp_of e284 c284_79 (rw_istore_n (pc' := 80) (z := v220577) (L' := [(2, vI v220577), (3, vI v220537), (0, .ref r0), (1, vI a1)]) rfl rfl rfl ?_)
                refine wp_of e284 c284_80 (rw_iinc (pc' := 83) (z := v220537) (L' := [(3, vI (v220537 + 1)), (2, vI v220577), (0, .ref r0), (1, vI a1)]) rfl rfl rfl rfl ?_)
                refine wp_of e284 c284_83 (rw_goto (p1 := 38) (by decide) ?_)
                exact wp_lc (ks := [3, 2, 0, 1]) (wl_c rfl (wl_c rfl (wl_c rfl (wl_c rfl wl_n)))) rfl (by decide) (ih220536 _ (by omega) (v220537 + 1) v220577 ⟨by omega, by omega⟩ ⟨by omega, by omega⟩ rfl)
      exact wp_lc (ks := [3, 2, 0, 1]) (wl_c rfl (wl_c rfl (wl_c rfl (wl_c rfl wl_n)))) rfl (by decide) (lp220534 _ 0 0 ⟨by omega, by omega⟩ ⟨by omega, by omega⟩ rfl)
    · refine wp_of e284 c284_28 (rw_aload_n (pc' := 29) (v := .ref r0) rfl rfl rfl ?_)
      refine wp_of e284 c284_29 (rw_iconst (pc' := 30) rfl ?_)
      refine wp_of e284 c284_30 (xc_V (pc' := 33) (r := r0) (as := [vI 2]) (st := []) (lm_9_54) rfl rfl (Nat.le_of_ble_eq_true rfl) w220329 g0 sh_42 (by decide) rfl (by decide) (s_170 w220329 g0 ⟨by omega, by omega⟩) (fun R220580 T220581 H220582 p220583 => ?_))
      obtain ⟨e220584, w220586, f220587, z220588, e220585, b220589⟩ := p220583
      subst e220584
      subst e220585
      have f220590 := f220330.tr f220587 rfl
      show wp _ _ 284 33 [(0, .ref r0), (1, vI a1)] [vI z220588] _ H220582 _
      have k220591 : wKI H220582 r0 = wKI H r0 := ((wKI_fr w220329 g0 f220587 rfl).trans (wKI_fr hW g0 ((wfr.rf (l := [(42, 0)])).put' e220328 g0 rfl) rfl))
      exact wp_ireturn e284 c284_33 rfl ⟨rfl, w220586, f220590, z220588, rfl, ⟨by omega, by omega⟩, by omega⟩
/-! StrikeAwakeModel.strike(II)I -/
theorem e285 : wq_en 285 = some (9, 3, false, some FieldType.int) := rfl
theorem c285_0 : mc_cd 285 0 = some (.aload_n 0, 1) := by decide +kernel
theorem c285_1 : mc_cd 285 1 = some (.iconst 0, 1) := by decide +kernel
theorem c285_2 : mc_cd 285 2 = some (.putfield 48, 3) := by decide +kernel
theorem c285_5 : mc_cd 285 5 = some (.aload_n 0, 1) := by decide +kernel
theorem c285_6 : mc_cd 285 6 = some (.iload_n 1, 1) := by decide +kernel
theorem c285_7 : mc_cd 285 7 = some (.invokevirtual 373, 3) := by decide +kernel
theorem c285_10 : mc_cd 285 10 = some (.ifCond .ne 9, 3) := by decide +kernel
theorem c285_13 : mc_cd 285 13 = some (.aload_n 0, 1) := by decide +kernel
theorem c285_14 : mc_cd 285 14 = some (.iconst 1, 1) := by decide +kernel
theorem c285_15 : mc_cd 285 15 = some (.invokevirtual 54, 3) := by decide +kernel
theorem c285_18 : mc_cd 285 18 = some (.ireturn, 1) := by decide +kernel
theorem c285_19 : mc_cd 285 19 = some (.iload_n 2, 1) := by decide +kernel
theorem c285_20 : mc_cd 285 20 = some (.iconst 0, 1) := by decide +kernel
theorem c285_21 : mc_cd 285 21 = some (.bipush 99, 2) := by decide +kernel
theorem c285_23 : mc_cd 285 23 = some (.invokestatic 125, 3) := by decide +kernel
theorem c285_26 : mc_cd 285 26 = some (.ifCond .ne 9, 3) := by decide +kernel
theorem c285_29 : mc_cd 285 29 = some (.aload_n 0, 1) := by decide +kernel
theorem c285_30 : mc_cd 285 30 = some (.iconst 2, 1) := by decide +kernel
theorem c285_31 : mc_cd 285 31 = some (.invokevirtual 54, 3) := by decide +kernel
theorem c285_34 : mc_cd 285 34 = some (.ireturn, 1) := by decide +kernel
theorem c285_35 : mc_cd 285 35 = some (.aload_n 0, 1) := by decide +kernel
theorem c285_36 : mc_cd 285 36 = some (.getfield 17, 3) := by decide +kernel
theorem c285_39 : mc_cd 285 39 = some (.iload_n 1, 1) := by decide +kernel
theorem c285_40 : mc_cd 285 40 = some (.iload_n 2, 1) := by decide +kernel
theorem c285_41 : mc_cd 285 41 = some (.iconst 1, 1) := by decide +kernel
theorem c285_42 : mc_cd 285 42 = some (.iadd, 1) := by decide +kernel
theorem c285_43 : mc_cd 285 43 = some (.iastore, 1) := by decide +kernel
theorem c285_44 : mc_cd 285 44 = some (.aload_n 0, 1) := by decide +kernel
theorem c285_45 : mc_cd 285 45 = some (.iconst 0, 1) := by decide +kernel
theorem c285_46 : mc_cd 285 46 = some (.putfield 353, 3) := by decide +kernel
theorem c285_49 : mc_cd 285 49 = some (.aload_n 0, 1) := by decide +kernel
theorem c285_50 : mc_cd 285 50 = some (.aload_n 0, 1) := by decide +kernel
theorem c285_51 : mc_cd 285 51 = some (.invokevirtual 357, 3) := by decide +kernel
theorem c285_54 : mc_cd 285 54 = some (.invokestatic 462, 3) := by decide +kernel
theorem c285_57 : mc_cd 285 57 = some (.invokevirtual 58, 3) := by decide +kernel
theorem c285_60 : mc_cd 285 60 = some (.ireturn, 1) := by decide +kernel
abbrev q_285 (r0 : Nat) (a1 : Int) (a2 : Int) (T : wq_T) (H : wq_H) : Option Value → wq_T → wq_H → Prop := fun r T' H' => T = T' ∧ WT T H' ∧ wfr [(42, 0), (42, 1), (42, 2), (42, 28), (44, 999)] T H H' ∧ ∃ z : Int, some (vI z) = r ∧ ((-2147483648) ≤ z ∧ z ≤ 2147483647) ∧ (wKI H' r0 = 1)
set_option maxHeartbeats 4000000 in
theorem s_285 {kt : Nat → Option mc_E} {T : wq_T} {H : wq_H} {r0 : Nat} {a1 : Int} {a2 : Int} (hW : WT T H) (g0 : T.2.2.2 r0 = some 42) (i1 : (-2147483648) ≤ a1 ∧ a1 ≤ 2147483647) (i2 : (-2147483648) ≤ a2 ∧ a2 ≤ 2147483647) (p0 : wKI H r0 = 1) : wpc kt 2 285 [.ref r0, vI a1, vI a2] T H (q_285 r0 a1 a2 T H) := by
  refine wp_enter e285 (Nat.le_of_ble_eq_true rfl) rfl ?_
  have f0 : wfr [(42, 0), (42, 1), (42, 2), (42, 28), (44, 999)] T H H := wfr.rf
  show wp _ _ 285 0 [(0, .ref r0), (1, vI a1), (2, vI a2)] [] _ H _
  refine wp_of e285 c285_0 (rw_aload_n (pc' := 1) (v := .ref r0) rfl rfl rfl ?_)
  refine wp_of e285 c285_1 (rw_iconst (pc' := 2) rfl ?_)
  refine wp_of e285 c285_2 (xp_I (pc' := 5) lf_9_48 hW g0 sh_42 (by decide) (by decide) ty_42_0 rfl rfl (by omega) (by omega) ⟨by omega, by omega⟩ rfl (fun H220688 e220689 w220690 => ?_))
  have f220691 := f0.put' e220689 g0 rfl
  have k220692 : H220688 r0 0 = 0 := wq_u_s e220689
  refine wp_of e285 c285_5 (rw_aload_n (pc' := 6) (v := .ref r0) rfl rfl rfl ?_)
  refine wp_of e285 c285_6 (rw_iload_n (pc' := 7) (z := a1) rfl rfl ?_)
  refine wp_of e285 c285_7 (xc_V (pc' := 10) (r := r0) (as := [vI a1]) (st := []) (lm_9_373) rfl rfl (Nat.le_of_ble_eq_true rfl) w220690 g0 sh_42 (by decide) rfl (by decide) (s_218 w220690 g0 ⟨by omega, by omega⟩) (fun R220693 T220694 H220695 p220696 => ?_))
  obtain ⟨e220697, e220699, z220701, e220698, b220702, p220700⟩ := p220696
  subst e220697
  subst e220698
  subst e220699
  show wp _ _ 285 10 [(0, .ref r0), (1, vI a1), (2, vI a2)] [vI z220701] _ H220688 _
  refine wp_of e285 c285_10 (rw_if_ne (p1 := 19) (p2 := 13) (by decide) rfl ⟨by omega, by omega⟩ (fun c220703 => ?_) (fun c220703 => ?_))
  · refine wp_of e285 c285_19 (rw_iload_n (pc' := 20) (z := a2) rfl rfl ?_)
    refine wp_of e285 c285_20 (rw_iconst (pc' := 21) rfl ?_)
    refine wp_of e285 c285_21 (rw_bipush (pc' := 23) (z := 99) rfl (by decide) ?_)
    refine wp_of e285 c285_23 (xc_S (pc' := 26) (as := [vI a2, vI 0, vI 99]) (st := []) (lm_9_125) rfl rfl (Nat.le_of_ble_eq_true rfl) rfl (by decide) (s_186 w220690 ⟨by omega, by omega⟩ ⟨by omega, by omega⟩ ⟨by omega, by omega⟩) (fun R220704 T220705 H220706 p220707 => ?_))
    obtain ⟨e220708, e220710, z220712, e220709, b220713, p220711⟩ := p220707
    subst e220708
    subst e220709
    subst e220710
    show wp _ _ 285 26 [(0, .ref r0), (1, vI a1), (2, vI a2)] [vI z220712] _ H220688 _
    refine wp_of e285 c285_26 (rw_if_ne (p1 := 35) (p2 := 29) (by decide) rfl ⟨by omega, by omega⟩ (fun c220714 => ?_) (fun c220714 => ?_))
    · refine wp_of e285 c285_35 (rw_aload_n (pc' := 36) (v := .ref r0) rfl rfl rfl ?_)
      refine wp_of e285 c285_36 (xg_R (pc' := 39) lf_9_17 w220690 g0 sh_42 (by decide) (by decide) ty_42_20 rfl rfl (fun r220715 q220716 g220717 => ?_))
      refine wp_of e285 c285_39 (rw_iload_n (pc' := 40) (z := a1) rfl rfl ?_)
      refine wp_of e285 c285_40 (rw_iload_n (pc' := 41) (z := a2) rfl rfl ?_)
      refine wp_of e285 c285_41 (rw_iconst (pc' := 42) rfl ?_)
      refine wp_of e285 c285_42 (rw_iaddw (pc' := 43) rfl ?_)
      obtain ⟨v220718, e220719⟩ : ∃ x : Int, x = wq_w (a2 + 1) := ⟨_, rfl⟩
      rw [← e220719]
      have b220720 : -2147483648 ≤ v220718 ∧ v220718 ≤ 2147483647 := by
        rw [e220719]
        exact wI_w _
      refine wp_of e285 c285_43 (xs_I (pc' := 44) w220690 g220717 (by decide) sh_44 (by decide) (ty_44 _) (by omega) (by omega) ⟨by omega, by omega⟩ (by omega) (by omega) rfl (fun H220721 e220722 w220723 => ?_))
      have f220724 := f220691.put' e220722 g220717 rfl
      refine wp_of e285 c285_44 (rw_aload_n (pc' := 45) (v := .ref r0) rfl rfl rfl ?_)
      refine wp_of e285 c285_45 (rw_iconst (pc' := 46) rfl ?_)
      refine wp_of e285 c285_46 (xp_Z (pc' := 49) lf_9_353 w220723 g0 sh_42 (by decide) (by decide) ty_42_28 rfl rfl (by omega) (by omega) rfl (fun H220725 e220726 w220727 => ?_))
      have f220728 := f220724.put' e220726 g0 rfl
      have k220729 : H220725 r0 28 = 0 := wq_u_s e220726
      refine wp_of e285 c285_49 (rw_aload_n (pc' := 50) (v := .ref r0) rfl rfl rfl ?_)
      refine wp_of e285 c285_50 (rw_aload_n (pc' := 51) (v := .ref r0) rfl rfl rfl ?_)
      refine wp_of e285 c285_51 (xc_V (pc' := 54) (r := r0) (as := []) (st := [.ref r0]) (lm_9_357) rfl rfl (Nat.le_of_ble_eq_true rfl) w220727 g0 sh_42 (by decide) rfl (by decide) (s_207 w220727 g0) (fun R220730 T220731 H220732 p220733 => ?_))
      obtain ⟨e220734, e220736, z220737, e220735, b220738⟩ := p220733
      subst e220734
      subst e220735
      subst e220736
      show wp _ _ 285 54 [(0, .ref r0), (1, vI a1), (2, vI a2)] [vI z220737, .ref r0] _ H220725 _
      refine wp_of e285 c285_54 (xc_S (pc' := 57) (as := [vI z220737]) (st := [.ref r0]) (lm_9_462) rfl rfl (Nat.le_of_ble_eq_true rfl) rfl (by decide) (s_269 w220727 ⟨by omega, by omega⟩) (fun R220739 T220740 H220741 p220742 => ?_))
      obtain ⟨e220743, e220745, z220746, e220744, b220747⟩ := p220742
      subst e220743
      subst e220744
      subst e220745
      show wp _ _ 285 57 [(0, .ref r0), (1, vI a1), (2, vI a2)] [vI z220746, .ref r0] _ H220725 _
      refine wp_of e285 c285_57 (xc_V (pc' := 60) (r := r0) (as := [vI z220746]) (st := []) (lm_9_58) rfl rfl (Nat.le_of_ble_eq_true rfl) w220727 g0 sh_42 (by decide) rfl (by decide) (s_209 w220727 g0 ⟨by omega, by omega⟩) (fun R220748 T220749 H220750 p220751 => ?_))
      obtain ⟨e220752, w220754, f220755, z220756, e220753, b220757⟩ := p220751
      subst e220752
      subst e220753
      have f220758 := f220728.tr f220755 rfl
      show wp _ _ 285 60 [(0, .ref r0), (1, vI a1), (2, vI a2)] [vI z220756] _ H220750 _
      have k220759 : H220750 r0 28 = H220725 r0 28 := (f220755 r0 28 _ g0 rfl)
      have k220760 : wKI H220750 r0 = 1 := wKI_1.mpr (by omega)
      exact wp_ireturn e285 c285_60 rfl ⟨rfl, w220754, f220758, z220756, rfl, ⟨by omega, by omega⟩, by omega⟩
    · refine wp_of e285 c285_29 (rw_aload_n (pc' := 30) (v := .ref r0) rfl rfl rfl ?_)
      refine wp_of e285 c285_30 (rw_iconst (pc' := 31) rfl ?_)
      refine wp_of e285 c285_31 (xc_V (pc' := 34) (r := r0) (as := [vI 2]) (st := []) (lm_9_54) rfl rfl (Nat.le_of_ble_eq_true rfl) w220690 g0 sh_42 (by decide) rfl (by decide) (s_170 w220690 g0 ⟨by omega, by omega⟩) (fun R220761 T220762 H220763 p220764 => ?_))
      obtain ⟨e220765, w220767, f220768, z220769, e220766, b220770⟩ := p220764
      subst e220765
      subst e220766
      have f220771 := f220691.tr f220768 rfl
      show wp _ _ 285 34 [(0, .ref r0), (1, vI a1), (2, vI a2)] [vI z220769] _ H220763 _
      have k220772 : wKI H220763 r0 = wKI H r0 := ((wKI_fr w220690 g0 f220768 rfl).trans (wKI_fr hW g0 ((wfr.rf (l := [(42, 0)])).put' e220689 g0 rfl) rfl))
      exact wp_ireturn e285 c285_34 rfl ⟨rfl, w220767, f220771, z220769, rfl, ⟨by omega, by omega⟩, by omega⟩
  · refine wp_of e285 c285_13 (rw_aload_n (pc' := 14) (v := .ref r0) rfl rfl rfl ?_)
    refine wp_of e285 c285_14 (rw_iconst (pc' := 15) rfl ?_)
    refine wp_of e285 c285_15 (xc_V (pc' := 18) (r := r0) (as := [vI 1]) (st := []) (lm_9_54) rfl rfl (Nat.le_of_ble_eq_true rfl) w220690 g0 sh_42 (by decide) rfl (by decide) (s_170 w220690 g0 ⟨by omega, by omega⟩) (fun R220773 T220774 H220775 p220776 => ?_))
    obtain ⟨e220777, w220779, f220780, z220781, e220778, b220782⟩ := p220776
    subst e220777
    subst e220778
    have f220783 := f220691.tr f220780 rfl
    show wp _ _ 285 18 [(0, .ref r0), (1, vI a1), (2, vI a2)] [vI z220781] _ H220775 _
    have k220784 : wKI H220775 r0 = wKI H r0 := ((wKI_fr w220690 g0 f220780 rfl).trans (wKI_fr hW g0 ((wfr.rf (l := [(42, 0)])).put' e220689 g0 rfl) rfl))
    exact wp_ireturn e285 c285_18 rfl ⟨rfl, w220779, f220783, z220781, rfl, ⟨by omega, by omega⟩, by omega⟩
/-! StrikeAwakeModel.still(I)Z -/
theorem e286 : wq_en 286 = some (9, 2, false, some FieldType.boolean) := rfl
theorem c286_0 : mc_cd 286 0 = some (.aload_n 0, 1) := by decide +kernel
theorem c286_1 : mc_cd 286 1 = some (.iconst 0, 1) := by decide +kernel
theorem c286_2 : mc_cd 286 2 = some (.putfield 48, 3) := by decide +kernel
theorem c286_5 : mc_cd 286 5 = some (.aload_n 0, 1) := by decide +kernel
theorem c286_6 : mc_cd 286 6 = some (.iload_n 1, 1) := by decide +kernel
theorem c286_7 : mc_cd 286 7 = some (.invokevirtual 487, 3) := by decide +kernel
theorem c286_10 : mc_cd 286 10 = some (.ifCond .ne 9, 3) := by decide +kernel
theorem c286_13 : mc_cd 286 13 = some (.aload_n 0, 1) := by decide +kernel
theorem c286_14 : mc_cd 286 14 = some (.iconst 1, 1) := by decide +kernel
theorem c286_15 : mc_cd 286 15 = some (.invokevirtual 400, 3) := by decide +kernel
theorem c286_18 : mc_cd 286 18 = some (.ireturn, 1) := by decide +kernel
theorem c286_19 : mc_cd 286 19 = some (.aload_n 0, 1) := by decide +kernel
theorem c286_20 : mc_cd 286 20 = some (.getfield 17, 3) := by decide +kernel
theorem c286_23 : mc_cd 286 23 = some (.iload_n 1, 1) := by decide +kernel
theorem c286_24 : mc_cd 286 24 = some (.iconst 0, 1) := by decide +kernel
theorem c286_25 : mc_cd 286 25 = some (.iastore, 1) := by decide +kernel
theorem c286_26 : mc_cd 286 26 = some (.aload_n 0, 1) := by decide +kernel
theorem c286_27 : mc_cd 286 27 = some (.iconst 0, 1) := by decide +kernel
theorem c286_28 : mc_cd 286 28 = some (.putfield 353, 3) := by decide +kernel
theorem c286_31 : mc_cd 286 31 = some (.aload_n 0, 1) := by decide +kernel
theorem c286_32 : mc_cd 286 32 = some (.invokevirtual 403, 3) := by decide +kernel
theorem c286_35 : mc_cd 286 35 = some (.ireturn, 1) := by decide +kernel
abbrev q_286 (r0 : Nat) (a1 : Int) (T : wq_T) (H : wq_H) : Option Value → wq_T → wq_H → Prop := fun r T' H' => T = T' ∧ WT T H' ∧ wfr [(42, 0), (42, 1), (42, 2), (42, 28), (44, 999)] T H H' ∧ ∃ z : Int, some (vI z) = r ∧ (0 ≤ z ∧ z ≤ 1) ∧ (wKI H' r0 = 1)
set_option maxHeartbeats 4000000 in
theorem s_286 {kt : Nat → Option mc_E} {T : wq_T} {H : wq_H} {r0 : Nat} {a1 : Int} (hW : WT T H) (g0 : T.2.2.2 r0 = some 42) (i1 : (-2147483648) ≤ a1 ∧ a1 ≤ 2147483647) (p0 : wKI H r0 = 1) : wpc kt 3 286 [.ref r0, vI a1] T H (q_286 r0 a1 T H) := by
  refine wp_enter e286 (Nat.le_of_ble_eq_true rfl) rfl ?_
  have f0 : wfr [(42, 0), (42, 1), (42, 2), (42, 28), (44, 999)] T H H := wfr.rf
  show wp _ _ 286 0 [(0, .ref r0), (1, vI a1)] [] _ H _
  refine wp_of e286 c286_0 (rw_aload_n (pc' := 1) (v := .ref r0) rfl rfl rfl ?_)
  refine wp_of e286 c286_1 (rw_iconst (pc' := 2) rfl ?_)
  refine wp_of e286 c286_2 (xp_I (pc' := 5) lf_9_48 hW g0 sh_42 (by decide) (by decide) ty_42_0 rfl rfl (by omega) (by omega) ⟨by omega, by omega⟩ rfl (fun H220838 e220839 w220840 => ?_))
  have f220841 := f0.put' e220839 g0 rfl
  have k220842 : H220838 r0 0 = 0 := wq_u_s e220839
  refine wp_of e286 c286_5 (rw_aload_n (pc' := 6) (v := .ref r0) rfl rfl rfl ?_)
  refine wp_of e286 c286_6 (rw_iload_n (pc' := 7) (z := a1) rfl rfl ?_)
  refine wp_of e286 c286_7 (xc_V (pc' := 10) (r := r0) (as := [vI a1]) (st := []) (lm_9_487) rfl rfl (Nat.le_of_ble_eq_true rfl) w220840 g0 sh_42 (by decide) rfl (by decide) (s_280 w220840 g0 ⟨by omega, by omega⟩) (fun R220843 T220844 H220845 p220846 => ?_))
  obtain ⟨e220847, e220849, z220851, e220848, b220852, p220850⟩ := p220846
  subst e220847
  subst e220848
  subst e220849
  show wp _ _ 286 10 [(0, .ref r0), (1, vI a1)] [vI z220851] _ H220838 _
  refine wp_of e286 c286_10 (rw_if_ne (p1 := 19) (p2 := 13) (by decide) rfl ⟨by omega, by omega⟩ (fun c220853 => ?_) (fun c220853 => ?_))
  · refine wp_of e286 c286_19 (rw_aload_n (pc' := 20) (v := .ref r0) rfl rfl rfl ?_)
    refine wp_of e286 c286_20 (xg_R (pc' := 23) lf_9_17 w220840 g0 sh_42 (by decide) (by decide) ty_42_20 rfl rfl (fun r220854 q220855 g220856 => ?_))
    refine wp_of e286 c286_23 (rw_iload_n (pc' := 24) (z := a1) rfl rfl ?_)
    refine wp_of e286 c286_24 (rw_iconst (pc' := 25) rfl ?_)
    refine wp_of e286 c286_25 (xs_I (pc' := 26) w220840 g220856 (by decide) sh_44 (by decide) (ty_44 _) (by omega) (by omega) ⟨by omega, by omega⟩ (by omega) (by omega) rfl (fun H220857 e220858 w220859 => ?_))
    have f220860 := f220841.put' e220858 g220856 rfl
    refine wp_of e286 c286_26 (rw_aload_n (pc' := 27) (v := .ref r0) rfl rfl rfl ?_)
    refine wp_of e286 c286_27 (rw_iconst (pc' := 28) rfl ?_)
    refine wp_of e286 c286_28 (xp_Z (pc' := 31) lf_9_353 w220859 g0 sh_42 (by decide) (by decide) ty_42_28 rfl rfl (by omega) (by omega) rfl (fun H220861 e220862 w220863 => ?_))
    have f220864 := f220860.put' e220862 g0 rfl
    have k220865 : H220861 r0 28 = 0 := wq_u_s e220862
    refine wp_of e286 c286_31 (rw_aload_n (pc' := 32) (v := .ref r0) rfl rfl rfl ?_)
    refine wp_of e286 c286_32 (xc_V (pc' := 35) (r := r0) (as := []) (st := []) (lm_9_403) rfl rfl (Nat.le_of_ble_eq_true rfl) w220863 g0 sh_42 (by decide) rfl (by decide) (s_224 w220863 g0) (fun R220866 T220867 H220868 p220869 => ?_))
    obtain ⟨e220870, w220872, f220873, z220874, e220871, b220875⟩ := p220869
    subst e220870
    subst e220871
    have f220876 := f220864.tr f220873 rfl
    show wp _ _ 286 35 [(0, .ref r0), (1, vI a1)] [vI z220874] _ H220868 _
    have k220877 : H220868 r0 28 = H220861 r0 28 := (f220873 r0 28 _ g0 rfl)
    have k220878 : wKI H220868 r0 = 1 := wKI_1.mpr (by omega)
    exact wp_zreturn e286 c286_35 rfl (by omega) ⟨rfl, w220872, f220876, z220874, rfl, ⟨by omega, by omega⟩, by omega⟩
  · refine wp_of e286 c286_13 (rw_aload_n (pc' := 14) (v := .ref r0) rfl rfl rfl ?_)
    refine wp_of e286 c286_14 (rw_iconst (pc' := 15) rfl ?_)
    refine wp_of e286 c286_15 (xc_V (pc' := 18) (r := r0) (as := [vI 1]) (st := []) (lm_9_400) rfl rfl (Nat.le_of_ble_eq_true rfl) w220840 g0 sh_42 (by decide) rfl (by decide) (s_223 w220840 g0 ⟨by omega, by omega⟩) (fun R220879 T220880 H220881 p220882 => ?_))
    obtain ⟨e220883, w220885, f220886, z220887, e220884, b220888⟩ := p220882
    subst e220883
    subst e220884
    have f220889 := f220841.tr f220886 rfl
    show wp _ _ 286 18 [(0, .ref r0), (1, vI a1)] [vI z220887] _ H220881 _
    have k220890 : wKI H220881 r0 = wKI H r0 := ((wKI_fr w220840 g0 f220886 rfl).trans (wKI_fr hW g0 ((wfr.rf (l := [(42, 0)])).put' e220839 g0 rfl) rfl))
    exact wp_zreturn e286 c286_18 rfl (by omega) ⟨rfl, w220885, f220889, z220887, rfl, ⟨by omega, by omega⟩, by omega⟩
