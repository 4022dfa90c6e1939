/-! what methods do (own work, written by wip/gen3/sx3.py) -/
/-! StrikeAwakeModel.leastProof(II)I  -/
abbrev uq_277 (r0 : Nat) (a1 : Int) (a2 : Int) (pp : Nat) (e : xD) (d : xD) (T : wq_T) (H : wq_H) : Option Value → wq_T → wq_H → Prop := fun r T' H' => T = T' ∧ WT T H' ∧ wfr [(51, 999)] T H H' ∧ ∃ z : Int, some (vI z) = r ∧ ((-1) ≤ z ∧ z ≤ 16777215) ∧ (((XLP (e 13) (XPV e d (xlots d).toNat) a2 z)))
set_option maxHeartbeats 4000000 in
theorem u_277 {kt : Nat → Option mc_E} {T : wq_T} {H : wq_H} {r0 : Nat} {a1 : Int} {a2 : Int} {pp : Nat} {e : xD} {d : xD} (hW : WT T H) (g0 : T.2.2.2 r0 = some 42) (i1 : 0 ≤ a1 ∧ a1 ≤ 16777215) (i2 : 0 ≤ a2 ∧ a2 ≤ 3) (qpp : H r0 3 = (pp : Int)) (gpp : T.2.2.2 pp = some 54) (p0 : a1 = xob (fun h => decide (e 13 h > 0)) 24) (p1 : XW d) (p2 : ∀ h : Nat, d 0 0 ≤ (h : Int) → h < 24 → e 13 h = 0) (p3 : XN d) (p4 : ∀ h : Nat, h < 24 → 0 ≤ e 13 h ∧ e 13 h ≤ 100) (p5 : xlots d ≤ 20000) (hRB_r0 : RB T H r0 e d) : wpc kt 6 277 [.ref r0, vI a1, vI a2] T H (uq_277 r0 a1 a2 pp e d T H) := by
  refine wp_enter e277 (Nat.le_of_ble_eq_true rfl) rfl ?_
  have f0 : wfr [(51, 999)] T H H := wfr.rf
  show wp _ _ 277 0 [(0, .ref r0), (1, vI a1), (2, vI a2)] [] _ H _
  have _xw := (by assumption : XW d)
  have _xc := _xw.2.1
  unfold XC at _xc
  have _n3 : H r0 3 ≠ -1 := by omega
  have _k := RP_k (RB_at hRB_r0 qpp)
  have _lm := RB_lm hRB_r0
  have _x0 : 0 ≤ xlots d := (xpr_b _xw.1 _ _).1
  refine wp_of e277 c277_0 (rw_iload_n (pc' := 1) (z := a2) rfl rfl ?_)
  refine wp_of e277 c277_1 (rw_if_ne (p1 := 18) (p2 := 4) (by decide) rfl ⟨Int.le_trans (by decide) i2.1, Int.le_trans i2.2 (by decide)⟩ (fun c21852 => ?_) (fun c21852 => ?_))
  · refine wp_of e277 c277_18 (rw_iload_n (pc' := 19) (z := a2) rfl rfl ?_)
    refine wp_of e277 c277_19 (rw_iconst (pc' := 20) rfl ?_)
    refine wp_of e277 c277_20 (rw_isub (pc' := 21) rfl ?_)
    refine wp_of e277 c277_21 (rw_istore_n (pc' := 22) (z := a2 - 1) (L' := [(3, vI (a2 - 1)), (0, .ref r0), (1, vI a1), (2, vI a2)]) rfl rfl rfl ?_)
    have lp39140 : ∀ (n39141 : Nat) (v39143 : Int) (H39144 : wq_H), WT T H39144 → wfr [(51, 999)] T H H39144 → (0 ≤ v39143 ∧ v39143 ≤ 24) → (1 ≤ a2) → (PA (e 13) (XPV e d (xlots d).toNat) a2 v39143) → (24 - v39143).toNat = n39141 → wp kt 5 277 22 [(3, vI v39143), (0, .ref r0), (1, vI a1), (2, vI a2)] [] T H39144 (uq_277 r0 a1 a2 pp e d T H) := by
      intro n39141
      induction n39141 using Nat.strongRecOn with
      | _ n39141 ih39142 =>
        intro v39143 H39144 w39145 f39146 b39147 x39149 x39150 m39148
        have f39151 := f0.tr f39146 rfl
        refine wp_of e277 c277_22 (rw_iload_n (pc' := 23) (z := v39143) rfl rfl ?_)
        refine wp_of e277 c277_23 (rw_bipush (pc' := 25) (z := 24) rfl (by decide) ?_)
        refine wp_of e277 c277_25 (rw_icmp_ge (p1 := 191) (p2 := 28) (by decide) rfl ⟨Int.le_trans (by decide) b39147.1, Int.le_trans b39147.2 (by decide)⟩ ⟨by decide, by decide⟩ (fun c39152 => ?_) (fun c39152 => ?_))
        · have _z : XLP (e 13) (XPV e d (xlots d).toNat) a2 (-1) := XLP_e (by assumption : PA (e 13) (XPV e d (xlots d).toNat) a2 v39143) (by omega) ⟨by omega, by omega⟩
          refine wp_of e277 c277_191 (rw_iconst (pc' := 192) rfl ?_)
          exact wp_ireturn e277 c277_192 rfl ⟨rfl, w39145, f39151, -1, rfl, ⟨by decide, by decide⟩, (_z)⟩
        · refine wp_of e277 c277_28 (rw_iload_n (pc' := 29) (z := a1) rfl rfl ?_)
          refine wp_of e277 c277_29 (rw_iload_n (pc' := 30) (z := v39143) rfl rfl ?_)
          refine wp_of e277 c277_30 (xc_S (pc' := 33) (as := [vI a1, vI v39143]) (st := []) (lm_9_346) rfl rfl (Nat.le_of_ble_eq_true rfl) rfl (by decide) (u_205  w39145 ⟨Int.le_trans (by decide) i1.1, Int.le_trans i1.2 (by decide)⟩ ⟨Int.le_trans (by decide) b39147.1, Int.le_trans b39147.2 (by decide)⟩) (fun R39153 T39154 H39155 p39156 => ?_))
          obtain ⟨e39157, e39159, z39160, e39158, b39161, p39162⟩ := p39156
          subst e39157
          subst e39158
          subst e39159
          rcases p39162 with ⟨a39163, a39164⟩ | ⟨a39165, a39166⟩
          · show wp _ _ 277 33 [(3, vI v39143), (0, .ref r0), (1, vI a1), (2, vI a2)] [vI z39160] _ H39144 _
            have _hv := hb_and (b := a1) (h := (v39143).toNat) (by omega) (by omega)
            rw [Int.toNat_of_nonneg (by omega : 0 ≤ v39143)] at _hv
            have _hc := @hb_b a1 (v39143).toNat
            have _hv3 := hb_str (f := e 13) (h := (v39143).toNat) p0 (by omega)
            refine wp_of e277 c277_33 (rw_if_ne (p1 := 39) (p2 := 36) (by decide) rfl ⟨Int.le_trans (by decide) b39161.1, Int.le_trans b39161.2 (by decide)⟩ (fun c39167 => ?_) (fun c39167 => ?_))
            · refine wp_of e277 c277_39 (rw_iload_n (pc' := 40) (z := a2) rfl rfl ?_)
              refine wp_of e277 c277_40 (rw_iconst (pc' := 41) rfl ?_)
              refine wp_of e277 c277_41 (rw_icmp_ne (p1 := 58) (p2 := 44) (by decide) rfl ⟨Int.le_trans (by decide) i2.1, Int.le_trans i2.2 (by decide)⟩ ⟨by decide, by decide⟩ (fun c39168 => ?_) (fun c39168 => ?_))
              · have _n1 : a2 = 1 → ¬ (XPV e d (xlots d).toNat) (Y1 (v39143).toNat) := fun q => by omega
                refine wp_of e277 c277_58 (rw_iload_n (pc' := 59) (z := a2) rfl rfl ?_)
                refine wp_of e277 c277_59 (rw_iconst (pc' := 60) rfl ?_)
                refine wp_of e277 c277_60 (rw_isub (pc' := 61) rfl ?_)
                refine wp_of e277 c277_61 (rw_istore (pc' := 63) (z := a2 - 2) (L' := [(4, vI (a2 - 2)), (3, vI v39143), (0, .ref r0), (1, vI a1), (2, vI a2)]) rfl rfl rfl ?_)
                have lp42261 : ∀ (n42262 : Nat) (v42264 : Int) (H42265 : wq_H), WT T H42265 → wfr [(51, 999)] T H39144 H42265 → (0 ≤ v42264 ∧ v42264 ≤ 23) → (a2 - 2 ≤ v42264) → (PB (e 13) (XPV e d (xlots d).toNat) a2 v39143 v42264) → (23 - v42264).toNat = n42262 → wp kt 5 277 63 [(4, vI v42264), (3, vI v39143), (0, .ref r0), (1, vI a1), (2, vI a2)] [] T H42265 (uq_277 r0 a1 a2 pp e d T H) := by
                  intro n42262
                  induction n42262 using Nat.strongRecOn with
                  | _ n42262 ih42263 =>
                    intro v42264 H42265 w42266 f42267 b42268 x42270 x42271 m42269
                    have f42272 := f39151.tr f42267 rfl
                    have f42273 := f39146.tr f42267 rfl
                    refine wp_of e277 c277_63 (rw_iload (pc' := 65) (z := v42264) rfl rfl ?_)
                    refine wp_of e277 c277_65 (rw_iload_n (pc' := 66) (z := v39143) rfl rfl ?_)
                    refine wp_of e277 c277_66 (rw_icmp_ge (p1 := 185) (p2 := 69) (by decide) rfl ⟨Int.le_trans (by decide) b42268.1, Int.le_trans b42268.2 (by decide)⟩ ⟨Int.le_trans (by decide) b39147.1, Int.le_trans b39147.2 (by decide)⟩ (fun c42274 => ?_) (fun c42274 => ?_))
                    · have _qa : PA (e 13) (XPV e d (xlots d).toNat) a2 (v39143 + 1) := PA_n (b := v42264) (by omega) (by assumption : PA (e 13) (XPV e d (xlots d).toNat) a2 v39143) _n1 (fun q => ⟨by assumption, by omega⟩)
                      refine wp_of e277 c277_185 (rw_iinc (pc' := 188) (z := v39143) (L' := [(3, vI (v39143 + 1)), (4, vI v42264), (0, .ref r0), (1, vI a1), (2, vI a2)]) rfl rfl rfl rfl ?_)
                      refine wp_of e277 c277_188 (rw_goto (p1 := 22) (by decide) ?_)
                      exact wp_lc (ks := [3, 4, 0, 1, 2]) (wl_c rfl (wl_c rfl (wl_c rfl (wl_c rfl wl_n)))) rfl (by decide) (ih39142 _ (by omega) (v39143 + 1) H42265 w42266 f42273 ⟨by omega, by omega⟩ (by omega) (_qa) rfl)
                    · refine wp_of e277 c277_69 (rw_iload_n (pc' := 70) (z := a2) rfl rfl ?_)
                      refine wp_of e277 c277_70 (rw_iconst (pc' := 71) rfl ?_)
                      refine wp_of e277 c277_71 (rw_icmp_le (p1 := 185) (p2 := 74) (by decide) rfl ⟨Int.le_trans (by decide) i2.1, Int.le_trans i2.2 (by decide)⟩ ⟨by decide, by decide⟩ (fun c42275 => ?_) (fun c42275 => ?_))
                      · exfalso
                        omega
                      · refine wp_of e277 c277_74 (rw_iload_n (pc' := 75) (z := a1) rfl rfl ?_)
                        refine wp_of e277 c277_75 (rw_iload (pc' := 77) (z := v42264) rfl rfl ?_)
                        refine wp_of e277 c277_77 (xc_S (pc' := 80) (as := [vI a1, vI v42264]) (st := []) (lm_9_346) rfl rfl (Nat.le_of_ble_eq_true rfl) rfl (by decide) (u_205  w42266 ⟨Int.le_trans (by decide) i1.1, Int.le_trans i1.2 (by decide)⟩ ⟨Int.le_trans (by decide) b42268.1, Int.le_trans b42268.2 (by decide)⟩) (fun R42276 T42277 H42278 p42279 => ?_))
                        obtain ⟨e42280, e42282, z42283, e42281, b42284, p42285⟩ := p42279
                        subst e42280
                        subst e42281
                        subst e42282
                        rcases p42285 with ⟨a42286, a42287⟩ | ⟨a42288, a42289⟩
                        · show wp _ _ 277 80 [(4, vI v42264), (3, vI v39143), (0, .ref r0), (1, vI a1), (2, vI a2)] [vI z42283] _ H42265 _
                          have _hv := hb_and (b := a1) (h := (v42264).toNat) (by omega) (by omega)
                          rw [Int.toNat_of_nonneg (by omega : 0 ≤ v42264)] at _hv
                          have _hc := @hb_b a1 (v42264).toNat
                          have _hv4 := hb_str (f := e 13) (h := (v42264).toNat) p0 (by omega)
                          refine wp_of e277 c277_80 (rw_if_ne (p1 := 86) (p2 := 83) (by decide) rfl ⟨Int.le_trans (by decide) b42284.1, Int.le_trans b42284.2 (by decide)⟩ (fun c42290 => ?_) (fun c42290 => ?_))
                          · refine wp_of e277 c277_86 (rw_iload_n (pc' := 87) (z := a2) rfl rfl ?_)
                            refine wp_of e277 c277_87 (rw_iconst (pc' := 88) rfl ?_)
                            refine wp_of e277 c277_88 (rw_icmp_ne (p1 := 115) (p2 := 91) (by decide) rfl ⟨Int.le_trans (by decide) i2.1, Int.le_trans i2.2 (by decide)⟩ ⟨by decide, by decide⟩ (fun c42291 => ?_) (fun c42291 => ?_))
                            · have _n2 : a2 = 2 → ¬ (XPV e d (xlots d).toNat) (Y2 (v39143).toNat (v42264).toNat) := fun q => by omega
                              refine wp_of e277 c277_115 (rw_iconst (pc' := 116) rfl ?_)
                              refine wp_of e277 c277_116 (rw_istore (pc' := 118) (z := 0) (L' := [(5, vI 0), (4, vI v42264), (3, vI v39143), (0, .ref r0), (1, vI a1), (2, vI a2)]) rfl rfl rfl ?_)
                              have lp42724 : ∀ (n42725 : Nat) (v42727 : Int) (H42728 : wq_H), WT T H42728 → wfr [(51, 999)] T H42265 H42728 → (0 ≤ v42727 ∧ v42727 ≤ 22) → (PC (e 13) (XPV e d (xlots d).toNat) v39143 v42264 v42727) → (22 - v42727).toNat = n42725 → wp kt 5 277 118 [(5, vI v42727), (4, vI v42264), (3, vI v39143), (0, .ref r0), (1, vI a1), (2, vI a2)] [] T H42728 (uq_277 r0 a1 a2 pp e d T H) := by
                                intro n42725
                                induction n42725 using Nat.strongRecOn with
                                | _ n42725 ih42726 =>
                                  intro v42727 H42728 w42729 f42730 b42731 x42733 m42732
                                  have f42734 := f42272.tr f42730 rfl
                                  have f42735 := f42273.tr f42730 rfl
                                  have f42736 := f42267.tr f42730 rfl
                                  refine wp_of e277 c277_118 (rw_iload (pc' := 120) (z := v42727) rfl rfl ?_)
                                  refine wp_of e277 c277_120 (rw_iload (pc' := 122) (z := v42264) rfl rfl ?_)
                                  refine wp_of e277 c277_122 (rw_icmp_ge (p1 := 179) (p2 := 125) (by decide) rfl ⟨Int.le_trans (by decide) b42731.1, Int.le_trans b42731.2 (by decide)⟩ ⟨Int.le_trans (by decide) b42268.1, Int.le_trans b42268.2 (by decide)⟩ (fun c42737 => ?_) (fun c42737 => ?_))
                                  · have _qb : PB (e 13) (XPV e d (xlots d).toNat) a2 v39143 (v42264 + 1) := PB_n (c := v42727) (by omega) (by assumption : PB (e 13) (XPV e d (xlots d).toNat) a2 v39143 v42264) _n2 (fun q => ⟨by assumption, by omega⟩)
                                    refine wp_of e277 c277_179 (rw_iinc (pc' := 182) (z := v42264) (L' := [(4, vI (v42264 + 1)), (5, vI v42727), (3, vI v39143), (0, .ref r0), (1, vI a1), (2, vI a2)]) rfl rfl rfl rfl ?_)
                                    refine wp_of e277 c277_182 (rw_goto (p1 := 63) (by decide) ?_)
                                    exact wp_lc (ks := [4, 5, 3, 0, 1, 2]) (wl_c rfl (wl_c rfl (wl_c rfl (wl_c rfl (wl_c rfl wl_n))))) rfl (by decide) (ih42263 _ (by omega) (v42264 + 1) H42728 w42729 f42736 ⟨by omega, by omega⟩ (by omega) (_qb) rfl)
                                  · refine wp_of e277 c277_125 (rw_iload_n (pc' := 126) (z := a2) rfl rfl ?_)
                                    refine wp_of e277 c277_126 (rw_iconst (pc' := 127) rfl ?_)
                                    refine wp_of e277 c277_127 (rw_icmp_le (p1 := 179) (p2 := 130) (by decide) rfl ⟨Int.le_trans (by decide) i2.1, Int.le_trans i2.2 (by decide)⟩ ⟨by decide, by decide⟩ (fun c42738 => ?_) (fun c42738 => ?_))
                                    · exfalso
                                      omega
                                    · refine wp_of e277 c277_130 (rw_iload_n (pc' := 131) (z := a1) rfl rfl ?_)
                                      refine wp_of e277 c277_131 (rw_iload (pc' := 133) (z := v42727) rfl rfl ?_)
                                      refine wp_of e277 c277_133 (xc_S (pc' := 136) (as := [vI a1, vI v42727]) (st := []) (lm_9_346) rfl rfl (Nat.le_of_ble_eq_true rfl) rfl (by decide) (u_205  w42729 ⟨Int.le_trans (by decide) i1.1, Int.le_trans i1.2 (by decide)⟩ ⟨Int.le_trans (by decide) b42731.1, Int.le_trans b42731.2 (by decide)⟩) (fun R42739 T42740 H42741 p42742 => ?_))
                                      obtain ⟨e42743, e42745, z42746, e42744, b42747, p42748⟩ := p42742
                                      subst e42743
                                      subst e42744
                                      subst e42745
                                      rcases p42748 with ⟨a42749, a42750⟩ | ⟨a42751, a42752⟩
                                      · show wp _ _ 277 136 [(5, vI v42727), (4, vI v42264), (3, vI v39143), (0, .ref r0), (1, vI a1), (2, vI a2)] [vI z42746] _ H42728 _
                                        have _hv := hb_and (b := a1) (h := (v42727).toNat) (by omega) (by omega)
                                        rw [Int.toNat_of_nonneg (by omega : 0 ≤ v42727)] at _hv
                                        have _hc := @hb_b a1 (v42727).toNat
                                        have _hv5 := hb_str (f := e 13) (h := (v42727).toNat) p0 (by omega)
                                        refine wp_of e277 c277_136 (rw_if_eq (p1 := 173) (p2 := 139) (by decide) rfl ⟨Int.le_trans (by decide) b42747.1, Int.le_trans b42747.2 (by decide)⟩ (fun c42753 => ?_) (fun c42753 => ?_))
                                        · exfalso
                                          omega
                                        · refine wp_of e277 c277_139 (rw_aload_n (pc' := 140) (v := .ref r0) rfl rfl rfl ?_)
                                          refine wp_of e277 c277_140 (rw_iconst (pc' := 141) rfl ?_)
                                          refine wp_of e277 c277_141 (rw_iload_n (pc' := 142) (z := v39143) rfl rfl ?_)
                                          refine wp_of e277 c277_142 (rw_ishl (pc' := 143) rfl ?_)
                                          obtain ⟨v42754, e42755⟩ : ∃ x : Int, x = wq_shl 1 v39143 := ⟨_, rfl⟩
                                          rw [← e42755]
                                          have b42756 : 1 ≤ v42754 ∧ v42754 ≤ 8388608 := by
                                            rw [e42755]
                                            exact wq_shl1_24 ⟨by omega, by omega⟩
                                          refine wp_of e277 c277_143 (rw_iconst (pc' := 144) rfl ?_)
                                          refine wp_of e277 c277_144 (rw_iload (pc' := 146) (z := v42264) rfl rfl ?_)
                                          refine wp_of e277 c277_146 (rw_ishl (pc' := 147) rfl ?_)
                                          obtain ⟨v42757, e42758⟩ : ∃ x : Int, x = wq_shl 1 v42264 := ⟨_, rfl⟩
                                          rw [← e42758]
                                          have b42759 : 1 ≤ v42757 ∧ v42757 ≤ 8388608 := by
                                            rw [e42758]
                                            exact wq_shl1_24 ⟨by omega, by omega⟩
                                          refine wp_of e277 c277_147 (rw_ior (pc' := 148) rfl ?_)
                                          obtain ⟨v42760, e42761⟩ : ∃ x : Int, x = wq_or v42754 v42757 := ⟨_, rfl⟩
                                          rw [← e42761]
                                          have b42762 : 0 ≤ v42760 ∧ v42760 ≤ 16777215 := by
                                            rw [e42761]
                                            exact wq_or_24 ⟨by omega, by omega⟩ ⟨by omega, by omega⟩
                                          refine wp_of e277 c277_148 (rw_iconst (pc' := 149) rfl ?_)
                                          refine wp_of e277 c277_149 (rw_iload (pc' := 151) (z := v42727) rfl rfl ?_)
                                          refine wp_of e277 c277_151 (rw_ishl (pc' := 152) rfl ?_)
                                          obtain ⟨v42763, e42764⟩ : ∃ x : Int, x = wq_shl 1 v42727 := ⟨_, rfl⟩
                                          rw [← e42764]
                                          have b42765 : 1 ≤ v42763 ∧ v42763 ≤ 8388608 := by
                                            rw [e42764]
                                            exact wq_shl1_24 ⟨by omega, by omega⟩
                                          refine wp_of e277 c277_152 (rw_ior (pc' := 153) rfl ?_)
                                          obtain ⟨v42766, e42767⟩ : ∃ x : Int, x = wq_or v42760 v42763 := ⟨_, rfl⟩
                                          rw [← e42767]
                                          have b42768 : 0 ≤ v42766 ∧ v42766 ≤ 16777215 := by
                                            rw [e42767]
                                            exact wq_or_24 ⟨by omega, by omega⟩ ⟨by omega, by omega⟩
                                          have _yc : v42766 = Y3 (v39143).toNat (v42264).toNat (v42727).toNat := by
                                            show _ = wq_or (wq_or (wq_shl 1 (((v39143).toNat : Nat) : Int)) (wq_shl 1 (((v42264).toNat : Nat) : Int))) (wq_shl 1 (((v42727).toNat : Nat) : Int))
                                            rw [show (((v39143).toNat : Nat) : Int) = v39143 by omega, show (((v42264).toNat : Nat) : Int) = v42264 by omega, show (((v42727).toNat : Nat) : Int) = v42727 by omega, e42767, e42761, e42755, e42758, e42764]
                                          have k42769 : H42728 r0 3 = H r0 3 := ((f42730 r0 3 _ g0 rfl).trans ((f42267 r0 3 _ g0 rfl).trans (f39146 r0 3 _ g0 rfl)))
                                          have q42770 : H42728 r0 3 = (pp : Int) := k42769.trans qpp
                                          have k42771 : wLM H42728 r0 = wLM H r0 := ((wLM_fr w42266 g0 f42730 rfl).trans ((wLM_fr w39145 g0 f42267 rfl).trans (wLM_fr hW g0 f39146 rfl)))
                                          have h42772 : RB T H42728 r0 e d := (RB_fr w42266 g0 f42730 rfl (RB_fr w39145 g0 f42267 rfl (RB_fr hW g0 f39146 rfl hRB_r0)))
                                          refine wp_of e277 c277_153 (xc_V (pc' := 156) (r := r0) (as := [vI v42766]) (st := []) (lm_9_484) rfl rfl (Nat.le_of_ble_eq_true rfl) w42729 g0 sh_42 (by decide) rfl (by decide) (u_278 (e := e) (d := d) w42729 g0 ⟨b42768.1, b42768.2⟩ q42770 gpp (by assumption) (by assumption) (by assumption) (by assumption) (by omega) h42772) (fun R42773 T42774 H42775 p42776 => ?_))
                                          obtain ⟨e42777, w42779, f42780, z42781, e42778, b42782, p42783⟩ := p42776
                                          subst e42777
                                          subst e42778
                                          rcases p42783 with ⟨a42784, a42785⟩ | ⟨a42786, a42787⟩
                                          · have f42788 := f42734.tr f42780 rfl
                                            have f42789 := f42735.tr f42780 rfl
                                            have f42790 := f42736.tr f42780 rfl
                                            have f42791 := f42730.tr f42780 rfl
                                            show wp _ _ 277 156 [(5, vI v42727), (4, vI v42264), (3, vI v39143), (0, .ref r0), (1, vI a1), (2, vI a2)] [vI z42781] _ H42775 _
                                            refine wp_of e277 c277_156 (rw_if_eq (p1 := 173) (p2 := 159) (by decide) rfl ⟨Int.le_trans (by decide) b42782.1, Int.le_trans b42782.2 (by decide)⟩ (fun c42792 => ?_) (fun c42792 => ?_))
                                            · exfalso
                                              omega
                                            · refine wp_of e277 c277_159 (rw_iconst (pc' := 160) rfl ?_)
                                              refine wp_of e277 c277_160 (rw_iload_n (pc' := 161) (z := v39143) rfl rfl ?_)
                                              refine wp_of e277 c277_161 (rw_ishl (pc' := 162) rfl ?_)
                                              obtain ⟨v42793, e42794⟩ : ∃ x : Int, x = wq_shl 1 v39143 := ⟨_, rfl⟩
                                              rw [← e42794]
                                              have b42795 : 1 ≤ v42793 ∧ v42793 ≤ 8388608 := by
                                                rw [e42794]
                                                exact wq_shl1_24 ⟨by omega, by omega⟩
                                              refine wp_of e277 c277_162 (rw_iconst (pc' := 163) rfl ?_)
                                              refine wp_of e277 c277_163 (rw_iload (pc' := 165) (z := v42264) rfl rfl ?_)
                                              refine wp_of e277 c277_165 (rw_ishl (pc' := 166) rfl ?_)
                                              obtain ⟨v42796, e42797⟩ : ∃ x : Int, x = wq_shl 1 v42264 := ⟨_, rfl⟩
                                              rw [← e42797]
                                              have b42798 : 1 ≤ v42796 ∧ v42796 ≤ 8388608 := by
                                                rw [e42797]
                                                exact wq_shl1_24 ⟨by omega, by omega⟩
                                              refine wp_of e277 c277_166 (rw_ior (pc' := 167) rfl ?_)
                                              obtain ⟨v42799, e42800⟩ : ∃ x : Int, x = wq_or v42793 v42796 := ⟨_, rfl⟩
                                              rw [← e42800]
                                              have b42801 : 0 ≤ v42799 ∧ v42799 ≤ 16777215 := by
                                                rw [e42800]
                                                exact wq_or_24 ⟨by omega, by omega⟩ ⟨by omega, by omega⟩
                                              refine wp_of e277 c277_167 (rw_iconst (pc' := 168) rfl ?_)
                                              refine wp_of e277 c277_168 (rw_iload (pc' := 170) (z := v42727) rfl rfl ?_)
                                              refine wp_of e277 c277_170 (rw_ishl (pc' := 171) rfl ?_)
                                              obtain ⟨v42802, e42803⟩ : ∃ x : Int, x = wq_shl 1 v42727 := ⟨_, rfl⟩
                                              rw [← e42803]
                                              have b42804 : 1 ≤ v42802 ∧ v42802 ≤ 8388608 := by
                                                rw [e42803]
                                                exact wq_shl1_24 ⟨by omega, by omega⟩
                                              refine wp_of e277 c277_171 (rw_ior (pc' := 172) rfl ?_)
                                              obtain ⟨v42805, e42806⟩ : ∃ x : Int, x = wq_or v42799 v42802 := ⟨_, rfl⟩
                                              rw [← e42806]
                                              have b42807 : 0 ≤ v42805 ∧ v42805 ≤ 16777215 := by
                                                rw [e42806]
                                                exact wq_or_24 ⟨by omega, by omega⟩ ⟨by omega, by omega⟩
                                              have _kk : (XPV e d (xlots d).toNat) (Y3 (v39143).toNat (v42264).toNat (v42727).toNat) := by rw [← _yc]; assumption
                                              have _yc : v42805 = Y3 (v39143).toNat (v42264).toNat (v42727).toNat := by
                                                show _ = wq_or (wq_or (wq_shl 1 (((v39143).toNat : Nat) : Int)) (wq_shl 1 (((v42264).toNat : Nat) : Int))) (wq_shl 1 (((v42727).toNat : Nat) : Int))
                                                rw [show (((v39143).toNat : Nat) : Int) = v39143 by omega, show (((v42264).toNat : Nat) : Int) = v42264 by omega, show (((v42727).toNat : Nat) : Int) = v42727 by omega, e42806, e42800, e42794, e42797, e42803]
                                              have _z : XLP (e 13) (XPV e d (xlots d).toNat) a2 v42805 := by
                                                rw [_yc]
                                                exact XLP_3 (by assumption : PA (e 13) (XPV e d (xlots d).toNat) a2 v39143) (by assumption : PB (e 13) (XPV e d (xlots d).toNat) a2 v39143 v42264) (by assumption : PC (e 13) (XPV e d (xlots d).toNat) v39143 v42264 v42727) (by omega) ⟨by omega, by omega, by omega, by omega⟩ (by omega) (by omega) (by omega) _kk
                                              exact wp_ireturn e277 c277_172 rfl ⟨rfl, w42779, f42788, v42805, rfl, ⟨Int.le_trans (by decide) b42807.1, b42807.2⟩, (_z)⟩
                                          · have f42808 := f42734.tr f42780 rfl
                                            have f42809 := f42735.tr f42780 rfl
                                            have f42810 := f42736.tr f42780 rfl
                                            have f42811 := f42730.tr f42780 rfl
                                            show wp _ _ 277 156 [(5, vI v42727), (4, vI v42264), (3, vI v39143), (0, .ref r0), (1, vI a1), (2, vI a2)] [vI z42781] _ H42775 _
                                            refine wp_of e277 c277_156 (rw_if_eq (p1 := 173) (p2 := 159) (by decide) rfl ⟨Int.le_trans (by decide) b42782.1, Int.le_trans b42782.2 (by decide)⟩ (fun c42812 => ?_) (fun c42812 => ?_))
                                            · have _qc : PC (e 13) (XPV e d (xlots d).toNat) v39143 v42264 (v42727 + 1) := PC_n (by omega) (by assumption : PC (e 13) (XPV e d (xlots d).toNat) v39143 v42264 v42727) (fun _ => by rw [← _yc]; assumption)
                                              refine wp_of e277 c277_173 (rw_iinc (pc' := 176) (z := v42727) (L' := [(5, vI (v42727 + 1)), (4, vI v42264), (3, vI v39143), (0, .ref r0), (1, vI a1), (2, vI a2)]) rfl rfl rfl rfl ?_)
                                              refine wp_of e277 c277_176 (rw_goto (p1 := 118) (by decide) ?_)
                                              exact wp_lc (ks := [5, 4, 3, 0, 1, 2]) (wl_c rfl (wl_c rfl (wl_c rfl (wl_c rfl (wl_c rfl (wl_c rfl wl_n)))))) rfl (by decide) (ih42726 _ (by omega) (v42727 + 1) H42775 w42779 f42811 ⟨by omega, by omega⟩ (_qc) rfl)
                                            · exfalso
                                              omega
                                      · show wp _ _ 277 136 [(5, vI v42727), (4, vI v42264), (3, vI v39143), (0, .ref r0), (1, vI a1), (2, vI a2)] [vI z42746] _ H42728 _
                                        have _hv := hb_and (b := a1) (h := (v42727).toNat) (by omega) (by omega)
                                        rw [Int.toNat_of_nonneg (by omega : 0 ≤ v42727)] at _hv
                                        have _hc := @hb_b a1 (v42727).toNat
                                        have _hv5 := hb_str (f := e 13) (h := (v42727).toNat) p0 (by omega)
                                        refine wp_of e277 c277_136 (rw_if_eq (p1 := 173) (p2 := 139) (by decide) rfl ⟨Int.le_trans (by decide) b42747.1, Int.le_trans b42747.2 (by decide)⟩ (fun c42813 => ?_) (fun c42813 => ?_))
                                        · have _qc : PC (e 13) (XPV e d (xlots d).toNat) v39143 v42264 (v42727 + 1) := PC_n (by omega) (by assumption : PC (e 13) (XPV e d (xlots d).toNat) v39143 v42264 v42727) (fun q => by omega)
                                          refine wp_of e277 c277_173 (rw_iinc (pc' := 176) (z := v42727) (L' := [(5, vI (v42727 + 1)), (4, vI v42264), (3, vI v39143), (0, .ref r0), (1, vI a1), (2, vI a2)]) rfl rfl rfl rfl ?_)
                                          refine wp_of e277 c277_176 (rw_goto (p1 := 118) (by decide) ?_)
                                          exact wp_lc (ks := [5, 4, 3, 0, 1, 2]) (wl_c rfl (wl_c rfl (wl_c rfl (wl_c rfl (wl_c rfl (wl_c rfl wl_n)))))) rfl (by decide) (ih42726 _ (by omega) (v42727 + 1) H42728 w42729 f42730 ⟨by omega, by omega⟩ (_qc) rfl)
                                        · exfalso
                                          omega
                              exact wp_lc (ks := [5, 4, 3, 0, 1, 2]) (wl_c rfl (wl_c rfl (wl_c rfl (wl_c rfl (wl_c rfl (wl_c rfl wl_n)))))) rfl (by decide) (lp42724 _ 0 H42265 w42266 wfr.rf ⟨by decide, by decide⟩ (PC_0) rfl)
                            · refine wp_of e277 c277_91 (rw_aload_n (pc' := 92) (v := .ref r0) rfl rfl rfl ?_)
                              refine wp_of e277 c277_92 (rw_iconst (pc' := 93) rfl ?_)
                              refine wp_of e277 c277_93 (rw_iload_n (pc' := 94) (z := v39143) rfl rfl ?_)
                              refine wp_of e277 c277_94 (rw_ishl (pc' := 95) rfl ?_)
                              obtain ⟨v42814, e42815⟩ : ∃ x : Int, x = wq_shl 1 v39143 := ⟨_, rfl⟩
                              rw [← e42815]
                              have b42816 : 1 ≤ v42814 ∧ v42814 ≤ 8388608 := by
                                rw [e42815]
                                exact wq_shl1_24 ⟨by omega, by omega⟩
                              refine wp_of e277 c277_95 (rw_iconst (pc' := 96) rfl ?_)
                              refine wp_of e277 c277_96 (rw_iload (pc' := 98) (z := v42264) rfl rfl ?_)
                              refine wp_of e277 c277_98 (rw_ishl (pc' := 99) rfl ?_)
                              obtain ⟨v42817, e42818⟩ : ∃ x : Int, x = wq_shl 1 v42264 := ⟨_, rfl⟩
                              rw [← e42818]
                              have b42819 : 1 ≤ v42817 ∧ v42817 ≤ 8388608 := by
                                rw [e42818]
                                exact wq_shl1_24 ⟨by omega, by omega⟩
                              refine wp_of e277 c277_99 (rw_ior (pc' := 100) rfl ?_)
                              obtain ⟨v42820, e42821⟩ : ∃ x : Int, x = wq_or v42814 v42817 := ⟨_, rfl⟩
                              rw [← e42821]
                              have b42822 : 0 ≤ v42820 ∧ v42820 ≤ 16777215 := by
                                rw [e42821]
                                exact wq_or_24 ⟨by omega, by omega⟩ ⟨by omega, by omega⟩
                              have _yb : v42820 = Y2 (v39143).toNat (v42264).toNat := by
                                show _ = wq_or (wq_shl 1 (((v39143).toNat : Nat) : Int)) (wq_shl 1 (((v42264).toNat : Nat) : Int))
                                rw [show (((v39143).toNat : Nat) : Int) = v39143 by omega, show (((v42264).toNat : Nat) : Int) = v42264 by omega, e42821, e42815, e42818]
                              have k42823 : H42265 r0 3 = H r0 3 := ((f42267 r0 3 _ g0 rfl).trans (f39146 r0 3 _ g0 rfl))
                              have q42824 : H42265 r0 3 = (pp : Int) := k42823.trans qpp
                              have k42825 : wLM H42265 r0 = wLM H r0 := ((wLM_fr w39145 g0 f42267 rfl).trans (wLM_fr hW g0 f39146 rfl))
                              have h42826 : RB T H42265 r0 e d := (RB_fr w39145 g0 f42267 rfl (RB_fr hW g0 f39146 rfl hRB_r0))
                              refine wp_of e277 c277_100 (xc_V (pc' := 103) (r := r0) (as := [vI v42820]) (st := []) (lm_9_484) rfl rfl (Nat.le_of_ble_eq_true rfl) w42266 g0 sh_42 (by decide) rfl (by decide) (u_278 (e := e) (d := d) w42266 g0 ⟨b42822.1, b42822.2⟩ q42824 gpp (by assumption) (by assumption) (by assumption) (by assumption) (by omega) h42826) (fun R42827 T42828 H42829 p42830 => ?_))
                              obtain ⟨e42831, w42833, f42834, z42835, e42832, b42836, p42837⟩ := p42830
                              subst e42831
                              subst e42832
                              rcases p42837 with ⟨a42838, a42839⟩ | ⟨a42840, a42841⟩
                              · have f42842 := f42272.tr f42834 rfl
                                have f42843 := f42273.tr f42834 rfl
                                have f42844 := f42267.tr f42834 rfl
                                show wp _ _ 277 103 [(4, vI v42264), (3, vI v39143), (0, .ref r0), (1, vI a1), (2, vI a2)] [vI z42835] _ H42829 _
                                refine wp_of e277 c277_103 (rw_if_eq (p1 := 115) (p2 := 106) (by decide) rfl ⟨Int.le_trans (by decide) b42836.1, Int.le_trans b42836.2 (by decide)⟩ (fun c42845 => ?_) (fun c42845 => ?_))
                                · exfalso
                                  omega
                                · refine wp_of e277 c277_106 (rw_iconst (pc' := 107) rfl ?_)
                                  refine wp_of e277 c277_107 (rw_iload_n (pc' := 108) (z := v39143) rfl rfl ?_)
                                  refine wp_of e277 c277_108 (rw_ishl (pc' := 109) rfl ?_)
                                  obtain ⟨v42846, e42847⟩ : ∃ x : Int, x = wq_shl 1 v39143 := ⟨_, rfl⟩
                                  rw [← e42847]
                                  have b42848 : 1 ≤ v42846 ∧ v42846 ≤ 8388608 := by
                                    rw [e42847]
                                    exact wq_shl1_24 ⟨by omega, by omega⟩
                                  refine wp_of e277 c277_109 (rw_iconst (pc' := 110) rfl ?_)
                                  refine wp_of e277 c277_110 (rw_iload (pc' := 112) (z := v42264) rfl rfl ?_)
                                  refine wp_of e277 c277_112 (rw_ishl (pc' := 113) rfl ?_)
                                  obtain ⟨v42849, e42850⟩ : ∃ x : Int, x = wq_shl 1 v42264 := ⟨_, rfl⟩
                                  rw [← e42850]
                                  have b42851 : 1 ≤ v42849 ∧ v42849 ≤ 8388608 := by
                                    rw [e42850]
                                    exact wq_shl1_24 ⟨by omega, by omega⟩
                                  refine wp_of e277 c277_113 (rw_ior (pc' := 114) rfl ?_)
                                  obtain ⟨v42852, e42853⟩ : ∃ x : Int, x = wq_or v42846 v42849 := ⟨_, rfl⟩
                                  rw [← e42853]
                                  have b42854 : 0 ≤ v42852 ∧ v42852 ≤ 16777215 := by
                                    rw [e42853]
                                    exact wq_or_24 ⟨by omega, by omega⟩ ⟨by omega, by omega⟩
                                  have _kk : (XPV e d (xlots d).toNat) (Y2 (v39143).toNat (v42264).toNat) := by rw [← _yb]; assumption
                                  have _yb : v42852 = Y2 (v39143).toNat (v42264).toNat := by
                                    show _ = wq_or (wq_shl 1 (((v39143).toNat : Nat) : Int)) (wq_shl 1 (((v42264).toNat : Nat) : Int))
                                    rw [show (((v39143).toNat : Nat) : Int) = v39143 by omega, show (((v42264).toNat : Nat) : Int) = v42264 by omega, e42853, e42847, e42850]
                                  have _z : XLP (e 13) (XPV e d (xlots d).toNat) a2 v42852 := by
                                    rw [_yb]
                                    exact XLP_2 (by assumption : PA (e 13) (XPV e d (xlots d).toNat) a2 v39143) (by assumption : PB (e 13) (XPV e d (xlots d).toNat) a2 v39143 v42264) (by omega) ⟨by omega, by omega, by omega⟩ (by omega) (by omega) _kk
                                  exact wp_ireturn e277 c277_114 rfl ⟨rfl, w42833, f42842, v42852, rfl, ⟨Int.le_trans (by decide) b42854.1, b42854.2⟩, (_z)⟩
                              · have f42855 := f42272.tr f42834 rfl
                                have f42856 := f42273.tr f42834 rfl
                                have f42857 := f42267.tr f42834 rfl
                                show wp _ _ 277 103 [(4, vI v42264), (3, vI v39143), (0, .ref r0), (1, vI a1), (2, vI a2)] [vI z42835] _ H42829 _
                                refine wp_of e277 c277_103 (rw_if_eq (p1 := 115) (p2 := 106) (by decide) rfl ⟨Int.le_trans (by decide) b42836.1, Int.le_trans b42836.2 (by decide)⟩ (fun c42858 => ?_) (fun c42858 => ?_))
                                · have _n2 : a2 = 2 → ¬ (XPV e d (xlots d).toNat) (Y2 (v39143).toNat (v42264).toNat) := fun _ => by rw [← _yb]; assumption
                                  refine wp_of e277 c277_115 (rw_iconst (pc' := 116) rfl ?_)
                                  refine wp_of e277 c277_116 (rw_istore (pc' := 118) (z := 0) (L' := [(5, vI 0), (4, vI v42264), (3, vI v39143), (0, .ref r0), (1, vI a1), (2, vI a2)]) rfl rfl rfl ?_)
                                  have lp42861 : ∀ (n42862 : Nat) (v42864 : Int), (0 ≤ v42864 ∧ v42864 ≤ 0) → (PC (e 13) (XPV e d (xlots d).toNat) v39143 v42264 v42864) → 0 = n42862 → wp kt 5 277 118 [(5, vI v42864), (4, vI v42264), (3, vI v39143), (0, .ref r0), (1, vI a1), (2, vI a2)] [] T H42829 (uq_277 r0 a1 a2 pp e d T H) := by
                                    intro n42862
                                    induction n42862 using Nat.strongRecOn with
                                    | _ n42862 ih42863 =>
                                      intro v42864 b42867 x42869 m42868
                                      refine wp_of e277 c277_118 (rw_iload (pc' := 120) (z := v42864) rfl rfl ?_)
                                      refine wp_of e277 c277_120 (rw_iload (pc' := 122) (z := v42264) rfl rfl ?_)
                                      refine wp_of e277 c277_122 (rw_icmp_ge (p1 := 179) (p2 := 125) (by decide) rfl ⟨Int.le_trans (by decide) b42867.1, Int.le_trans b42867.2 (by decide)⟩ ⟨Int.le_trans (by decide) b42268.1, Int.le_trans b42268.2 (by decide)⟩ (fun c42870 => ?_) (fun c42870 => ?_))
                                      · have _qb : PB (e 13) (XPV e d (xlots d).toNat) a2 v39143 (v42264 + 1) := PB_n (c := v42864) (by omega) (by assumption : PB (e 13) (XPV e d (xlots d).toNat) a2 v39143 v42264) _n2 (fun q => ⟨by assumption, by omega⟩)
                                        refine wp_of e277 c277_179 (rw_iinc (pc' := 182) (z := v42264) (L' := [(4, vI (v42264 + 1)), (5, vI v42864), (3, vI v39143), (0, .ref r0), (1, vI a1), (2, vI a2)]) rfl rfl rfl rfl ?_)
                                        refine wp_of e277 c277_182 (rw_goto (p1 := 63) (by decide) ?_)
                                        exact wp_lc (ks := [4, 5, 3, 0, 1, 2]) (wl_c rfl (wl_c rfl (wl_c rfl (wl_c rfl (wl_c rfl wl_n))))) rfl (by decide) (ih42263 _ (by omega) (v42264 + 1) H42829 w42833 f42857 ⟨by omega, by omega⟩ (by omega) (_qb) rfl)
                                      · refine wp_of e277 c277_125 (rw_iload_n (pc' := 126) (z := a2) rfl rfl ?_)
                                        refine wp_of e277 c277_126 (rw_iconst (pc' := 127) rfl ?_)
                                        refine wp_of e277 c277_127 (rw_icmp_le (p1 := 179) (p2 := 130) (by decide) rfl ⟨Int.le_trans (by decide) i2.1, Int.le_trans i2.2 (by decide)⟩ ⟨by decide, by decide⟩ (fun c42871 => ?_) (fun c42871 => ?_))
                                        · have _qb : PB (e 13) (XPV e d (xlots d).toNat) a2 v39143 (v42264 + 1) := PB_n (c := v42864) (by omega) (by assumption : PB (e 13) (XPV e d (xlots d).toNat) a2 v39143 v42264) _n2 (fun q => ⟨by assumption, by omega⟩)
                                          refine wp_of e277 c277_179 (rw_iinc (pc' := 182) (z := v42264) (L' := [(4, vI (v42264 + 1)), (5, vI v42864), (3, vI v39143), (0, .ref r0), (1, vI a1), (2, vI a2)]) rfl rfl rfl rfl ?_)
                                          refine wp_of e277 c277_182 (rw_goto (p1 := 63) (by decide) ?_)
                                          exact wp_lc (ks := [4, 5, 3, 0, 1, 2]) (wl_c rfl (wl_c rfl (wl_c rfl (wl_c rfl (wl_c rfl wl_n))))) rfl (by decide) (ih42263 _ (by omega) (v42264 + 1) H42829 w42833 f42857 ⟨by omega, by omega⟩ (by omega) (_qb) rfl)
                                        · exfalso
                                          omega
                                  exact wp_lc (ks := [5, 4, 3, 0, 1, 2]) (wl_c rfl (wl_c rfl (wl_c rfl (wl_c rfl (wl_c rfl (wl_c rfl wl_n)))))) rfl (by decide) (lp42861 _ 0 ⟨by decide, by decide⟩ (PC_0) rfl)
                                · exfalso
                                  omega
                          · exfalso
                            omega
                        · show wp _ _ 277 80 [(4, vI v42264), (3, vI v39143), (0, .ref r0), (1, vI a1), (2, vI a2)] [vI z42283] _ H42265 _
                          have _hv := hb_and (b := a1) (h := (v42264).toNat) (by omega) (by omega)
                          rw [Int.toNat_of_nonneg (by omega : 0 ≤ v42264)] at _hv
                          have _hc := @hb_b a1 (v42264).toNat
                          have _hv4 := hb_str (f := e 13) (h := (v42264).toNat) p0 (by omega)
                          refine wp_of e277 c277_80 (rw_if_ne (p1 := 86) (p2 := 83) (by decide) rfl ⟨Int.le_trans (by decide) b42284.1, Int.le_trans b42284.2 (by decide)⟩ (fun c42872 => ?_) (fun c42872 => ?_))
                          · exfalso
                            omega
                          · refine wp_of e277 c277_83 (rw_goto (p1 := 179) (by decide) ?_)
                            have _qb : PB (e 13) (XPV e d (xlots d).toNat) a2 v39143 (v42264 + 1) := PB_s (by omega) (by assumption : PB (e 13) (XPV e d (xlots d).toNat) a2 v39143 v42264) (by omega)
                            refine wp_of e277 c277_179 (rw_iinc (pc' := 182) (z := v42264) (L' := [(4, vI (v42264 + 1)), (3, vI v39143), (0, .ref r0), (1, vI a1), (2, vI a2)]) rfl rfl rfl rfl ?_)
                            refine wp_of e277 c277_182 (rw_goto (p1 := 63) (by decide) ?_)
                            exact wp_lc (ks := [4, 3, 0, 1, 2]) (wl_c rfl (wl_c rfl (wl_c rfl (wl_c rfl (wl_c rfl wl_n))))) rfl (by decide) (ih42263 _ (by omega) (v42264 + 1) H42265 w42266 f42267 ⟨by omega, by omega⟩ (by omega) (_qb) rfl)
                exact wp_lc (ks := [4, 3, 0, 1, 2]) (wl_c rfl (wl_c rfl (wl_c rfl (wl_c rfl (wl_c rfl wl_n))))) rfl (by decide) (lp42261 _ (a2 - 2) H39144 w39145 wfr.rf ⟨by omega, by omega⟩ (by omega) (PB_0 (by omega)) rfl)
              · refine wp_of e277 c277_44 (rw_aload_n (pc' := 45) (v := .ref r0) rfl rfl rfl ?_)
                refine wp_of e277 c277_45 (rw_iconst (pc' := 46) rfl ?_)
                refine wp_of e277 c277_46 (rw_iload_n (pc' := 47) (z := v39143) rfl rfl ?_)
                refine wp_of e277 c277_47 (rw_ishl (pc' := 48) rfl ?_)
                obtain ⟨v42873, e42874⟩ : ∃ x : Int, x = wq_shl 1 v39143 := ⟨_, rfl⟩
                rw [← e42874]
                have b42875 : 1 ≤ v42873 ∧ v42873 ≤ 8388608 := by
                  rw [e42874]
                  exact wq_shl1_24 ⟨by omega, by omega⟩
                have _ya : v42873 = Y1 (v39143).toNat := by
                  show _ = wq_shl 1 (((v39143).toNat : Nat) : Int)
                  rw [show (((v39143).toNat : Nat) : Int) = v39143 by omega, e42874]
                have k42876 : H39144 r0 3 = H r0 3 := (f39146 r0 3 _ g0 rfl)
                have q42877 : H39144 r0 3 = (pp : Int) := k42876.trans qpp
                have k42878 : wLM H39144 r0 = wLM H r0 := (wLM_fr hW g0 f39146 rfl)
                have h42879 : RB T H39144 r0 e d := (RB_fr hW g0 f39146 rfl hRB_r0)
                refine wp_of e277 c277_48 (xc_V (pc' := 51) (r := r0) (as := [vI v42873]) (st := []) (lm_9_484) rfl rfl (Nat.le_of_ble_eq_true rfl) w39145 g0 sh_42 (by decide) rfl (by decide) (u_278 (e := e) (d := d) w39145 g0 ⟨Int.le_trans (by decide) b42875.1, Int.le_trans b42875.2 (by decide)⟩ q42877 gpp (by assumption) (by assumption) (by assumption) (by assumption) (by omega) h42879) (fun R42880 T42881 H42882 p42883 => ?_))
                obtain ⟨e42884, w42886, f42887, z42888, e42885, b42889, p42890⟩ := p42883
                subst e42884
                subst e42885
                rcases p42890 with ⟨a42891, a42892⟩ | ⟨a42893, a42894⟩
                · have f42895 := f39151.tr f42887 rfl
                  have f42896 := f39146.tr f42887 rfl
                  show wp _ _ 277 51 [(3, vI v39143), (0, .ref r0), (1, vI a1), (2, vI a2)] [vI z42888] _ H42882 _
                  refine wp_of e277 c277_51 (rw_if_eq (p1 := 58) (p2 := 54) (by decide) rfl ⟨Int.le_trans (by decide) b42889.1, Int.le_trans b42889.2 (by decide)⟩ (fun c42897 => ?_) (fun c42897 => ?_))
                  · exfalso
                    omega
                  · refine wp_of e277 c277_54 (rw_iconst (pc' := 55) rfl ?_)
                    refine wp_of e277 c277_55 (rw_iload_n (pc' := 56) (z := v39143) rfl rfl ?_)
                    refine wp_of e277 c277_56 (rw_ishl (pc' := 57) rfl ?_)
                    obtain ⟨v42898, e42899⟩ : ∃ x : Int, x = wq_shl 1 v39143 := ⟨_, rfl⟩
                    rw [← e42899]
                    have b42900 : 1 ≤ v42898 ∧ v42898 ≤ 8388608 := by
                      rw [e42899]
                      exact wq_shl1_24 ⟨by omega, by omega⟩
                    have _kk : (XPV e d (xlots d).toNat) (Y1 (v39143).toNat) := by rw [← _ya]; assumption
                    have _ya : v42898 = Y1 (v39143).toNat := by
                      show _ = wq_shl 1 (((v39143).toNat : Nat) : Int)
                      rw [show (((v39143).toNat : Nat) : Int) = v39143 by omega, e42899]
                    have _z : XLP (e 13) (XPV e d (xlots d).toNat) a2 v42898 := by
                      rw [_ya]
                      exact XLP_1 (by assumption : PA (e 13) (XPV e d (xlots d).toNat) a2 v39143) (by omega) ⟨by omega, by omega⟩ (by omega) _kk
                    exact wp_ireturn e277 c277_57 rfl ⟨rfl, w42886, f42895, v42898, rfl, ⟨Int.le_trans (by decide) b42900.1, Int.le_trans b42900.2 (by decide)⟩, (_z)⟩
                · have f42901 := f39151.tr f42887 rfl
                  have f42902 := f39146.tr f42887 rfl
                  show wp _ _ 277 51 [(3, vI v39143), (0, .ref r0), (1, vI a1), (2, vI a2)] [vI z42888] _ H42882 _
                  refine wp_of e277 c277_51 (rw_if_eq (p1 := 58) (p2 := 54) (by decide) rfl ⟨Int.le_trans (by decide) b42889.1, Int.le_trans b42889.2 (by decide)⟩ (fun c42903 => ?_) (fun c42903 => ?_))
                  · have _n1 : a2 = 1 → ¬ (XPV e d (xlots d).toNat) (Y1 (v39143).toNat) := fun _ => by rw [← _ya]; assumption
                    refine wp_of e277 c277_58 (rw_iload_n (pc' := 59) (z := a2) rfl rfl ?_)
                    refine wp_of e277 c277_59 (rw_iconst (pc' := 60) rfl ?_)
                    refine wp_of e277 c277_60 (rw_isub (pc' := 61) rfl ?_)
                    refine wp_of e277 c277_61 (rw_istore (pc' := 63) (z := a2 - 2) (L' := [(4, vI (a2 - 2)), (3, vI v39143), (0, .ref r0), (1, vI a1), (2, vI a2)]) rfl rfl rfl ?_)
                    have lp42906 : ∀ (n42907 : Nat) (v42909 : Int), ((-1) ≤ v42909 ∧ v42909 ≤ (-1)) → (a2 - 2 ≤ v42909) → (PB (e 13) (XPV e d (xlots d).toNat) a2 v39143 v42909) → 0 = n42907 → wp kt 5 277 63 [(4, vI v42909), (3, vI v39143), (0, .ref r0), (1, vI a1), (2, vI a2)] [] T H42882 (uq_277 r0 a1 a2 pp e d T H) := by
                      intro n42907
                      induction n42907 using Nat.strongRecOn with
                      | _ n42907 ih42908 =>
                        intro v42909 b42912 x42914 x42915 m42913
                        refine wp_of e277 c277_63 (rw_iload (pc' := 65) (z := v42909) rfl rfl ?_)
                        refine wp_of e277 c277_65 (rw_iload_n (pc' := 66) (z := v39143) rfl rfl ?_)
                        refine wp_of e277 c277_66 (rw_icmp_ge (p1 := 185) (p2 := 69) (by decide) rfl ⟨Int.le_trans (by decide) b42912.1, Int.le_trans b42912.2 (by decide)⟩ ⟨Int.le_trans (by decide) b39147.1, Int.le_trans b39147.2 (by decide)⟩ (fun c42916 => ?_) (fun c42916 => ?_))
                        · exfalso
                          omega
                        · refine wp_of e277 c277_69 (rw_iload_n (pc' := 70) (z := a2) rfl rfl ?_)
                          refine wp_of e277 c277_70 (rw_iconst (pc' := 71) rfl ?_)
                          refine wp_of e277 c277_71 (rw_icmp_le (p1 := 185) (p2 := 74) (by decide) rfl ⟨Int.le_trans (by decide) i2.1, Int.le_trans i2.2 (by decide)⟩ ⟨by decide, by decide⟩ (fun c42917 => ?_) (fun c42917 => ?_))
                          · have _qa : PA (e 13) (XPV e d (xlots d).toNat) a2 (v39143 + 1) := PA_n (b := v42909) (by omega) (by assumption : PA (e 13) (XPV e d (xlots d).toNat) a2 v39143) _n1 (fun q => ⟨by assumption, by omega⟩)
                            refine wp_of e277 c277_185 (rw_iinc (pc' := 188) (z := v39143) (L' := [(3, vI (v39143 + 1)), (4, vI v42909), (0, .ref r0), (1, vI a1), (2, vI a2)]) rfl rfl rfl rfl ?_)
                            refine wp_of e277 c277_188 (rw_goto (p1 := 22) (by decide) ?_)
                            exact wp_lc (ks := [3, 4, 0, 1, 2]) (wl_c rfl (wl_c rfl (wl_c rfl (wl_c rfl wl_n)))) rfl (by decide) (ih39142 _ (by omega) (v39143 + 1) H42882 w42886 f42902 ⟨by omega, by omega⟩ (by omega) (_qa) rfl)
                          · exfalso
                            omega
                    exact wp_lc (ks := [4, 3, 0, 1, 2]) (wl_c rfl (wl_c rfl (wl_c rfl (wl_c rfl (wl_c rfl wl_n))))) rfl (by decide) (lp42906 _ (a2 - 2) ⟨by omega, by omega⟩ (by omega) (PB_0 (by omega)) rfl)
                  · exfalso
                    omega
            · exfalso
              omega
          · show wp _ _ 277 33 [(3, vI v39143), (0, .ref r0), (1, vI a1), (2, vI a2)] [vI z39160] _ H39144 _
            have _hv := hb_and (b := a1) (h := (v39143).toNat) (by omega) (by omega)
            rw [Int.toNat_of_nonneg (by omega : 0 ≤ v39143)] at _hv
            have _hc := @hb_b a1 (v39143).toNat
            have _hv3 := hb_str (f := e 13) (h := (v39143).toNat) p0 (by omega)
            refine wp_of e277 c277_33 (rw_if_ne (p1 := 39) (p2 := 36) (by decide) rfl ⟨Int.le_trans (by decide) b39161.1, Int.le_trans b39161.2 (by decide)⟩ (fun c42918 => ?_) (fun c42918 => ?_))
            · exfalso
              omega
            · refine wp_of e277 c277_36 (rw_goto (p1 := 185) (by decide) ?_)
              have _qa : PA (e 13) (XPV e d (xlots d).toNat) a2 (v39143 + 1) := PA_s (by omega) (by assumption : PA (e 13) (XPV e d (xlots d).toNat) a2 v39143) (by omega)
              refine wp_of e277 c277_185 (rw_iinc (pc' := 188) (z := v39143) (L' := [(3, vI (v39143 + 1)), (0, .ref r0), (1, vI a1), (2, vI a2)]) rfl rfl rfl rfl ?_)
              refine wp_of e277 c277_188 (rw_goto (p1 := 22) (by decide) ?_)
              exact wp_lc (ks := [3, 0, 1, 2]) (wl_c rfl (wl_c rfl (wl_c rfl (wl_c rfl wl_n)))) rfl (by decide) (ih39142 _ (by omega) (v39143 + 1) H39144 w39145 f39146 ⟨by omega, by omega⟩ (by omega) (_qa) rfl)
    exact wp_lc (ks := [3, 0, 1, 2]) (wl_c rfl (wl_c rfl (wl_c rfl (wl_c rfl wl_n)))) rfl (by decide) (lp39140 _ (a2 - 1) H hW wfr.rf ⟨by omega, by omega⟩ (by omega) (PA_0 (by omega)) rfl)
  · refine wp_of e277 c277_4 (rw_aload_n (pc' := 5) (v := .ref r0) rfl rfl rfl ?_)
    refine wp_of e277 c277_5 (rw_iconst (pc' := 6) rfl ?_)
    refine wp_of e277 c277_6 (xc_V (pc' := 9) (r := r0) (as := [vI 0]) (st := []) (lm_9_484) rfl rfl (Nat.le_of_ble_eq_true rfl) hW g0 sh_42 (by decide) rfl (by decide) (u_278 (e := e) (d := d) hW g0 ⟨by decide, by decide⟩ qpp gpp (by assumption) (by assumption) (by assumption) (by assumption) (by omega) hRB_r0) (fun R42919 T42920 H42921 p42922 => ?_))
    obtain ⟨e42923, w42925, f42926, z42927, e42924, b42928, p42929⟩ := p42922
    subst e42923
    subst e42924
    rcases p42929 with ⟨a42930, a42931⟩ | ⟨a42932, a42933⟩
    · have f42934 := f0.tr f42926 rfl
      show wp _ _ 277 9 [(0, .ref r0), (1, vI a1), (2, vI a2)] [vI z42927] _ H42921 _
      refine wp_of e277 c277_9 (rw_if_eq (p1 := 16) (p2 := 12) (by decide) rfl ⟨Int.le_trans (by decide) b42928.1, Int.le_trans b42928.2 (by decide)⟩ (fun c42935 => ?_) (fun c42935 => ?_))
      · exfalso
        omega
      · refine wp_of e277 c277_12 (rw_iconst (pc' := 13) rfl ?_)
        refine wp_of e277 c277_13 (rw_goto (p1 := 17) (by decide) ?_)
        have _z : XLP (e 13) (XPV e d (xlots d).toNat) a2 0 := Or.inl ⟨by omega, Or.inl ⟨by assumption, rfl⟩⟩
        exact wp_ireturn e277 c277_17 rfl ⟨rfl, w42925, f42934, 0, rfl, ⟨by decide, by decide⟩, (_z)⟩
    · have f42936 := f0.tr f42926 rfl
      show wp _ _ 277 9 [(0, .ref r0), (1, vI a1), (2, vI a2)] [vI z42927] _ H42921 _
      refine wp_of e277 c277_9 (rw_if_eq (p1 := 16) (p2 := 12) (by decide) rfl ⟨Int.le_trans (by decide) b42928.1, Int.le_trans b42928.2 (by decide)⟩ (fun c42937 => ?_) (fun c42937 => ?_))
      · refine wp_of e277 c277_16 (rw_iconst (pc' := 17) rfl ?_)
        have _z : XLP (e 13) (XPV e d (xlots d).toNat) a2 (-1) := Or.inl ⟨by omega, Or.inr ⟨by assumption, rfl⟩⟩
        exact wp_ireturn e277 c277_17 rfl ⟨rfl, w42925, f42936, -1, rfl, ⟨by decide, by decide⟩, (_z)⟩
      · exfalso
        omega
/-! StrikeAwakeModel.worlds()I  -/
abbrev uq_240 (r0 : Nat) (e : xD) (d : xD) (T : wq_T) (H : wq_H) : Option Value → wq_T → wq_H → Prop := fun r T' H' => T = T' ∧ WT T H' ∧ wfr [(42, 0), (42, 1), (42, 2), (42, 28), (42, 29), (51, 999), (52, 999)] T H H' ∧ ∃ z : Int, some (vI z) = r ∧ ((-2147483648) ≤ z ∧ z ≤ 2147483647) ∧ (((z = -1) ∧ (wKI H' r0 = 1) ∧ (H r0 3 = -1 ∨ 20000 < xlots d) ∧ KNN T H' r0 e d) ∨ ((wKI H' r0 = 1) ∧ (H r0 3 ≠ -1 ∧ xlots d ≤ 20000) ∧ (z = xcn (xwf e d) (xlots d).toNat) ∧ KNN T H' r0 e d))
set_option maxHeartbeats 4000000 in
theorem u_240 {kt : Nat → Option mc_E} {T : wq_T} {H : wq_H} {r0 : Nat} {e : xD} {d : xD} (hW : WT T H) (g0 : T.2.2.2 r0 = some 42) (p0 : wKI H r0 = 1) (p1 : XW d) (p2 : ∀ h : Nat, d 0 0 ≤ (h : Int) → h < 24 → e 13 h = 0) (p3 : XN d) (p4 : ∀ h : Nat, h < 24 → 0 ≤ e 13 h ∧ e 13 h ≤ 100) (hRB_r0 : RB T H r0 e d) (hKNN_r0 : KNN T H r0 e d) : wpc kt 8 240 [.ref r0] T H (uq_240 r0 e d T H) := by
  refine wp_enter e240 (Nat.le_of_ble_eq_true rfl) rfl ?_
  have f0 : wfr [(42, 0), (42, 1), (42, 2), (42, 28), (42, 29), (51, 999), (52, 999)] T H H := wfr.rf
  show wp _ _ 240 0 [(0, .ref r0)] [] _ H _
  have _b := RB_b hW hRB_r0
  have _nu := RB_n3 hRB_r0
  have _lm := RB_lm hRB_r0
  refine wp_of e240 c240_0 (rw_aload_n (pc' := 1) (v := .ref r0) rfl rfl rfl ?_)
  refine wp_of e240 c240_1 (rw_iconst (pc' := 2) rfl ?_)
  refine wp_of e240 c240_2 (xp_I (pc' := 5) lf_9_48 hW g0 sh_42 (by decide) (by decide) ty_42_0 rfl rfl (by decide) (by decide) ⟨by decide, by decide⟩ rfl (fun H1138 e1139 w1140 => ?_))
  have f1141 := f0.put' e1139 g0 rfl
  have k1142 : H1138 r0 0 = 0 := wq_u_s e1139
  refine wp_of e240 c240_5 (rw_aload_n (pc' := 6) (v := .ref r0) rfl rfl rfl ?_)
  refine wp_of e240 c240_6 (rw_aload_n (pc' := 7) (v := .ref r0) rfl rfl rfl ?_)
  have k1143 : H1138 r0 3 = H r0 3 := (wq_u_j e1139 rfl)
  refine wp_of e240 c240_7 (xg_O (pc' := 10) lf_9_337 w1140 g0 sh_42 (by decide) (by decide) ty_42_3 rfl rfl (fun q1145 => ?_) (fun r1144 q1145 g1146 => ?_))
  · refine wp_of e240 c240_10 (rw_ifnull_n (p1 := 17) (p2 := 13) (by decide) rfl ?_)
    refine wp_of e240 c240_17 (rw_iconst (pc' := 18) rfl ?_)
    have k1147 : wKI H1138 r0 = wKI H r0 := (wKI_fr hW g0 ((wfr.rf (l := [(42, 0)])).put' e1139 g0 rfl) rfl)
    have h1148 : RB T H1138 r0 e d := (RB_fr hW g0 ((wfr.rf (l := [(42, 0)])).put' e1139 g0 rfl) rfl hRB_r0)
    have h1149 : KNN T H1138 r0 e d := (KNN_fr hW g0 ((wfr.rf (l := [(42, 0)])).put' e1139 g0 rfl) rfl hKNN_r0)
    refine wp_of e240 c240_18 (xc_V (pc' := 21) (r := r0) (as := [vI 0]) (st := []) (lm_9_433) rfl rfl (Nat.le_of_ble_eq_true rfl) w1140 g0 sh_42 (by decide) rfl (by decide) (u_241 (e := e) (d := d) w1140 g0 ⟨by decide, by decide⟩ (by omega) (by omega) (by assumption) (by assumption) (by assumption) (by assumption) h1148 h1149) (fun R1150 T1151 H1152 p1153 => ?_))
    obtain ⟨e1154, w1156, f1157, z1158, e1155, b1159, p1160⟩ := p1153
    subst e1154
    subst e1155
    rcases p1160 with ⟨a1161, a1162, a1163, a1164, a1165, a1166, a1167, a1168, a1169⟩ | ⟨a1170, a1171, a1172, a1173, a1174, a1175, a1176⟩
    · exfalso
      omega
    · have f1177 := f1141.tr f1157 rfl
      show wp _ _ 240 21 [(0, .ref r0)] [vI z1158] _ H1152 _
      refine wp_of e240 c240_21 (rw_istore_n (pc' := 22) (z := z1158) (L' := [(1, vI z1158), (0, .ref r0)]) rfl rfl rfl ?_)
      refine wp_of e240 c240_22 (rw_iload_n (pc' := 23) (z := z1158) rfl rfl ?_)
      refine wp_of e240 c240_23 (rw_if_le (p1 := 34) (p2 := 26) (by decide) rfl ⟨Int.le_trans (by decide) b1159.1, Int.le_trans b1159.2 (by decide)⟩ (fun c1178 => ?_) (fun c1178 => ?_))
      · exfalso
        omega
      · refine wp_of e240 c240_26 (rw_aload_n (pc' := 27) (v := .ref r0) rfl rfl rfl ?_)
        refine wp_of e240 c240_27 (rw_iload_n (pc' := 28) (z := z1158) rfl rfl ?_)
        refine wp_of e240 c240_28 (xc_V (pc' := 31) (r := r0) (as := [vI z1158]) (st := []) (lm_9_54) rfl rfl (Nat.le_of_ble_eq_true rfl) w1156 g0 sh_42 (by decide) rfl (by decide) (u_170  w1156 g0 ⟨Int.le_trans (by decide) b1159.1, Int.le_trans b1159.2 (by decide)⟩) (fun R1179 T1180 H1181 p1182 => ?_))
        obtain ⟨e1183, w1185, f1186, z1187, e1184, b1188, p1189⟩ := p1182
        subst e1183
        subst e1184
        obtain ⟨a1190, a1191, a1192⟩ := p1189
        have f1193 := f1177.tr f1186 rfl
        show wp _ _ 240 31 [(1, vI z1158), (0, .ref r0)] [vI z1187] _ H1181 _
        refine wp_of e240 c240_31 (rw_goto (p1 := 42) (by decide) ?_)
        have k1194 : wKI H1181 r0 = wKI H1152 r0 := (wKI_fr w1156 g0 f1186 rfl)
        have h1195 : KNN T H1181 r0 e d := (KNN_fr w1156 g0 f1186 rfl a1176)
        exact wp_ireturn e240 c240_42 rfl ⟨rfl, w1185, f1193, z1187, rfl, ⟨b1188.1, b1188.2⟩, (Or.inl ⟨by omega, by omega, by omega, h1195⟩)⟩
  · refine wp_of e240 c240_10 (rw_ifnull_r (p1 := 17) (p2 := 13) (by decide) rfl ?_)
    refine wp_of e240 c240_13 (rw_iconst (pc' := 14) rfl ?_)
    refine wp_of e240 c240_14 (rw_goto (p1 := 18) (by decide) ?_)
    have k1196 : wKI H1138 r0 = wKI H r0 := (wKI_fr hW g0 ((wfr.rf (l := [(42, 0)])).put' e1139 g0 rfl) rfl)
    have h1197 : RB T H1138 r0 e d := (RB_fr hW g0 ((wfr.rf (l := [(42, 0)])).put' e1139 g0 rfl) rfl hRB_r0)
    have h1198 : KNN T H1138 r0 e d := (KNN_fr hW g0 ((wfr.rf (l := [(42, 0)])).put' e1139 g0 rfl) rfl hKNN_r0)
    refine wp_of e240 c240_18 (xc_V (pc' := 21) (r := r0) (as := [vI 1]) (st := []) (lm_9_433) rfl rfl (Nat.le_of_ble_eq_true rfl) w1140 g0 sh_42 (by decide) rfl (by decide) (u_241 (e := e) (d := d) w1140 g0 ⟨by decide, by decide⟩ (by omega) (by omega) (by assumption) (by assumption) (by assumption) (by assumption) h1197 h1198) (fun R1199 T1200 H1201 p1202 => ?_))
    obtain ⟨e1203, w1205, f1206, z1207, e1204, b1208, p1209⟩ := p1202
    subst e1203
    subst e1204
    rcases p1209 with ⟨a1210, a1211, a1212, a1213, a1214, a1215, a1216, a1217, a1218⟩ | ⟨a1219, a1220, a1221, a1222, a1223, a1224, a1225⟩
    · have f1226 := f1141.tr f1206 rfl
      show wp _ _ 240 21 [(0, .ref r0)] [vI z1207] _ H1201 _
      refine wp_of e240 c240_21 (rw_istore_n (pc' := 22) (z := z1207) (L' := [(1, vI z1207), (0, .ref r0)]) rfl rfl rfl ?_)
      refine wp_of e240 c240_22 (rw_iload_n (pc' := 23) (z := z1207) rfl rfl ?_)
      refine wp_of e240 c240_23 (rw_if_le (p1 := 34) (p2 := 26) (by decide) rfl ⟨Int.le_trans (by decide) b1208.1, Int.le_trans b1208.2 (by decide)⟩ (fun c1227 => ?_) (fun c1227 => ?_))
      · have _kb := (a1218).1
        refine wp_of e240 c240_34 (rw_aload_n (pc' := 35) (v := .ref r0) rfl rfl rfl ?_)
        refine wp_of e240 c240_35 (rw_aload_n (pc' := 36) (v := .ref r0) rfl rfl rfl ?_)
        refine wp_of e240 c240_36 (xg_I (pc' := 39) lf_9_422 w1205 g0 sh_42 (by decide) (by decide) ty_42_29 rfl rfl (fun b1228 b1229 => ?_))
        refine wp_of e240 c240_39 (xc_V (pc' := 42) (r := r0) (as := [vI (H1201 r0 29)]) (st := []) (lm_9_58) rfl rfl (Nat.le_of_ble_eq_true rfl) w1205 g0 sh_42 (by decide) rfl (by decide) (u_209  w1205 g0 ⟨Int.le_trans (by decide) b1228, Int.le_trans b1229 (by decide)⟩) (fun R1230 T1231 H1232 p1233 => ?_))
        obtain ⟨e1234, w1236, f1237, z1238, e1235, b1239, p1240⟩ := p1233
        subst e1234
        subst e1235
        obtain ⟨a1241, a1242, a1243⟩ := p1240
        have f1244 := f1226.tr f1237 rfl
        show wp _ _ 240 42 [(1, vI z1207), (0, .ref r0)] [vI z1238] _ H1232 _
        have k1245 : wKI H1232 r0 = wKI H1201 r0 := (wKI_fr w1205 g0 f1237 rfl)
        have h1246 : KNN T H1232 r0 e d := (KNN_fr w1205 g0 f1237 rfl a1217)
        exact wp_ireturn e240 c240_42 rfl ⟨rfl, w1236, f1244, z1238, rfl, ⟨b1239.1, b1239.2⟩, (Or.inr ⟨by omega, by omega, by omega, h1246⟩)⟩
      · exfalso
        omega
    · have f1247 := f1141.tr f1206 rfl
      show wp _ _ 240 21 [(0, .ref r0)] [vI z1207] _ H1201 _
      refine wp_of e240 c240_21 (rw_istore_n (pc' := 22) (z := z1207) (L' := [(1, vI z1207), (0, .ref r0)]) rfl rfl rfl ?_)
      refine wp_of e240 c240_22 (rw_iload_n (pc' := 23) (z := z1207) rfl rfl ?_)
      refine wp_of e240 c240_23 (rw_if_le (p1 := 34) (p2 := 26) (by decide) rfl ⟨Int.le_trans (by decide) b1208.1, Int.le_trans b1208.2 (by decide)⟩ (fun c1248 => ?_) (fun c1248 => ?_))
      · exfalso
        omega
      · refine wp_of e240 c240_26 (rw_aload_n (pc' := 27) (v := .ref r0) rfl rfl rfl ?_)
        refine wp_of e240 c240_27 (rw_iload_n (pc' := 28) (z := z1207) rfl rfl ?_)
        refine wp_of e240 c240_28 (xc_V (pc' := 31) (r := r0) (as := [vI z1207]) (st := []) (lm_9_54) rfl rfl (Nat.le_of_ble_eq_true rfl) w1205 g0 sh_42 (by decide) rfl (by decide) (u_170  w1205 g0 ⟨Int.le_trans (by decide) b1208.1, Int.le_trans b1208.2 (by decide)⟩) (fun R1249 T1250 H1251 p1252 => ?_))
        obtain ⟨e1253, w1255, f1256, z1257, e1254, b1258, p1259⟩ := p1252
        subst e1253
        subst e1254
        obtain ⟨a1260, a1261, a1262⟩ := p1259
        have f1263 := f1247.tr f1256 rfl
        show wp _ _ 240 31 [(1, vI z1207), (0, .ref r0)] [vI z1257] _ H1251 _
        refine wp_of e240 c240_31 (rw_goto (p1 := 42) (by decide) ?_)
        have k1264 : wKI H1251 r0 = wKI H1201 r0 := (wKI_fr w1205 g0 f1256 rfl)
        have h1265 : KNN T H1251 r0 e d := (KNN_fr w1205 g0 f1256 rfl a1225)
        exact wp_ireturn e240 c240_42 rfl ⟨rfl, w1255, f1263, z1257, rfl, ⟨b1258.1, b1258.2⟩, (Or.inl ⟨by omega, by omega, by omega, h1265⟩)⟩
/-! StrikeAwakeModel.can()I  -/
abbrev uq_244 (r0 : Nat) (e : xD) (d : xD) (T : wq_T) (H : wq_H) : Option Value → wq_T → wq_H → Prop := fun r T' H' => T = T' ∧ WT T H' ∧ wfr [(42, 0), (42, 1), (42, 2), (42, 28), (42, 29), (51, 999), (52, 999)] T H H' ∧ ∃ z : Int, some (vI z) = r ∧ ((-2147483648) ≤ z ∧ z ≤ 2147483647) ∧ (((z = -1) ∧ (wKI H' r0 = 1) ∧ (H r0 3 = -1 ∨ 20000 < xlots d) ∧ KNN T H' r0 e d) ∨ ((0 ≤ z ∧ z ≤ 1) ∧ (wKI H' r0 = 1) ∧ (H r0 3 ≠ -1 ∧ xlots d ≤ 20000) ∧ ((z = 1 ∧ 0 < xcn (xwf e d) (xlots d).toNat) ∨ (z = 0 ∧ xcn (xwf e d) (xlots d).toNat ≤ 0)) ∧ KNN T H' r0 e d))
set_option maxHeartbeats 4000000 in
theorem u_244 {kt : Nat → Option mc_E} {T : wq_T} {H : wq_H} {r0 : Nat} {e : xD} {d : xD} (hW : WT T H) (g0 : T.2.2.2 r0 = some 42) (p0 : wKI H r0 = 1) (p1 : XW d) (p2 : ∀ h : Nat, d 0 0 ≤ (h : Int) → h < 24 → e 13 h = 0) (p3 : XN d) (p4 : ∀ h : Nat, h < 24 → 0 ≤ e 13 h ∧ e 13 h ≤ 100) (hRB_r0 : RB T H r0 e d) (hKNN_r0 : KNN T H r0 e d) : wpc kt 8 244 [.ref r0] T H (uq_244 r0 e d T H) := by
  refine wp_enter e244 (Nat.le_of_ble_eq_true rfl) rfl ?_
  have f0 : wfr [(42, 0), (42, 1), (42, 2), (42, 28), (42, 29), (51, 999), (52, 999)] T H H := wfr.rf
  show wp _ _ 244 0 [(0, .ref r0)] [] _ H _
  have _b := RB_b hW hRB_r0
  have _nu := RB_n3 hRB_r0
  have _lm := RB_lm hRB_r0
  refine wp_of e244 c244_0 (rw_aload_n (pc' := 1) (v := .ref r0) rfl rfl rfl ?_)
  refine wp_of e244 c244_1 (rw_iconst (pc' := 2) rfl ?_)
  refine wp_of e244 c244_2 (xp_I (pc' := 5) lf_9_48 hW g0 sh_42 (by decide) (by decide) ty_42_0 rfl rfl (by decide) (by decide) ⟨by decide, by decide⟩ rfl (fun H1170 e1171 w1172 => ?_))
  have f1173 := f0.put' e1171 g0 rfl
  have k1174 : H1170 r0 0 = 0 := wq_u_s e1171
  refine wp_of e244 c244_5 (rw_aload_n (pc' := 6) (v := .ref r0) rfl rfl rfl ?_)
  refine wp_of e244 c244_6 (rw_aload_n (pc' := 7) (v := .ref r0) rfl rfl rfl ?_)
  have k1175 : H1170 r0 3 = H r0 3 := (wq_u_j e1171 rfl)
  refine wp_of e244 c244_7 (xg_O (pc' := 10) lf_9_337 w1172 g0 sh_42 (by decide) (by decide) ty_42_3 rfl rfl (fun q1177 => ?_) (fun r1176 q1177 g1178 => ?_))
  · refine wp_of e244 c244_10 (rw_ifnull_n (p1 := 17) (p2 := 13) (by decide) rfl ?_)
    refine wp_of e244 c244_17 (rw_iconst (pc' := 18) rfl ?_)
    have k1179 : wKI H1170 r0 = wKI H r0 := (wKI_fr hW g0 ((wfr.rf (l := [(42, 0)])).put' e1171 g0 rfl) rfl)
    have h1180 : RB T H1170 r0 e d := (RB_fr hW g0 ((wfr.rf (l := [(42, 0)])).put' e1171 g0 rfl) rfl hRB_r0)
    have h1181 : KNN T H1170 r0 e d := (KNN_fr hW g0 ((wfr.rf (l := [(42, 0)])).put' e1171 g0 rfl) rfl hKNN_r0)
    refine wp_of e244 c244_18 (xc_V (pc' := 21) (r := r0) (as := [vI 0]) (st := []) (lm_9_433) rfl rfl (Nat.le_of_ble_eq_true rfl) w1172 g0 sh_42 (by decide) rfl (by decide) (u_241 (e := e) (d := d) w1172 g0 ⟨by decide, by decide⟩ (by omega) (by omega) (by assumption) (by assumption) (by assumption) (by assumption) h1180 h1181) (fun R1182 T1183 H1184 p1185 => ?_))
    obtain ⟨e1186, w1188, f1189, z1190, e1187, b1191, p1192⟩ := p1185
    subst e1186
    subst e1187
    rcases p1192 with ⟨a1193, a1194, a1195, a1196, a1197, a1198, a1199, a1200, a1201⟩ | ⟨a1202, a1203, a1204, a1205, a1206, a1207, a1208⟩
    · exfalso
      omega
    · have f1209 := f1173.tr f1189 rfl
      show wp _ _ 244 21 [(0, .ref r0)] [vI z1190] _ H1184 _
      refine wp_of e244 c244_21 (rw_istore_n (pc' := 22) (z := z1190) (L' := [(1, vI z1190), (0, .ref r0)]) rfl rfl rfl ?_)
      refine wp_of e244 c244_22 (rw_iload_n (pc' := 23) (z := z1190) rfl rfl ?_)
      refine wp_of e244 c244_23 (rw_if_le (p1 := 34) (p2 := 26) (by decide) rfl ⟨Int.le_trans (by decide) b1191.1, Int.le_trans b1191.2 (by decide)⟩ (fun c1210 => ?_) (fun c1210 => ?_))
      · exfalso
        omega
      · refine wp_of e244 c244_26 (rw_aload_n (pc' := 27) (v := .ref r0) rfl rfl rfl ?_)
        refine wp_of e244 c244_27 (rw_iload_n (pc' := 28) (z := z1190) rfl rfl ?_)
        refine wp_of e244 c244_28 (xc_V (pc' := 31) (r := r0) (as := [vI z1190]) (st := []) (lm_9_54) rfl rfl (Nat.le_of_ble_eq_true rfl) w1188 g0 sh_42 (by decide) rfl (by decide) (u_170  w1188 g0 ⟨Int.le_trans (by decide) b1191.1, Int.le_trans b1191.2 (by decide)⟩) (fun R1211 T1212 H1213 p1214 => ?_))
        obtain ⟨e1215, w1217, f1218, z1219, e1216, b1220, p1221⟩ := p1214
        subst e1215
        subst e1216
        obtain ⟨a1222, a1223, a1224⟩ := p1221
        have f1225 := f1209.tr f1218 rfl
        show wp _ _ 244 31 [(1, vI z1190), (0, .ref r0)] [vI z1219] _ H1213 _
        refine wp_of e244 c244_31 (rw_goto (p1 := 50) (by decide) ?_)
        have k1226 : wKI H1213 r0 = wKI H1184 r0 := (wKI_fr w1188 g0 f1218 rfl)
        have h1227 : KNN T H1213 r0 e d := (KNN_fr w1188 g0 f1218 rfl a1208)
        exact wp_ireturn e244 c244_50 rfl ⟨rfl, w1217, f1225, z1219, rfl, ⟨b1220.1, b1220.2⟩, (Or.inl ⟨by omega, by omega, by omega, h1227⟩)⟩
  · refine wp_of e244 c244_10 (rw_ifnull_r (p1 := 17) (p2 := 13) (by decide) rfl ?_)
    refine wp_of e244 c244_13 (rw_iconst (pc' := 14) rfl ?_)
    refine wp_of e244 c244_14 (rw_goto (p1 := 18) (by decide) ?_)
    have k1228 : wKI H1170 r0 = wKI H r0 := (wKI_fr hW g0 ((wfr.rf (l := [(42, 0)])).put' e1171 g0 rfl) rfl)
    have h1229 : RB T H1170 r0 e d := (RB_fr hW g0 ((wfr.rf (l := [(42, 0)])).put' e1171 g0 rfl) rfl hRB_r0)
    have h1230 : KNN T H1170 r0 e d := (KNN_fr hW g0 ((wfr.rf (l := [(42, 0)])).put' e1171 g0 rfl) rfl hKNN_r0)
    refine wp_of e244 c244_18 (xc_V (pc' := 21) (r := r0) (as := [vI 1]) (st := []) (lm_9_433) rfl rfl (Nat.le_of_ble_eq_true rfl) w1172 g0 sh_42 (by decide) rfl (by decide) (u_241 (e := e) (d := d) w1172 g0 ⟨by decide, by decide⟩ (by omega) (by omega) (by assumption) (by assumption) (by assumption) (by assumption) h1229 h1230) (fun R1231 T1232 H1233 p1234 => ?_))
    obtain ⟨e1235, w1237, f1238, z1239, e1236, b1240, p1241⟩ := p1234
    subst e1235
    subst e1236
    rcases p1241 with ⟨a1242, a1243, a1244, a1245, a1246, a1247, a1248, a1249, a1250⟩ | ⟨a1251, a1252, a1253, a1254, a1255, a1256, a1257⟩
    · have f1258 := f1173.tr f1238 rfl
      show wp _ _ 244 21 [(0, .ref r0)] [vI z1239] _ H1233 _
      refine wp_of e244 c244_21 (rw_istore_n (pc' := 22) (z := z1239) (L' := [(1, vI z1239), (0, .ref r0)]) rfl rfl rfl ?_)
      refine wp_of e244 c244_22 (rw_iload_n (pc' := 23) (z := z1239) rfl rfl ?_)
      refine wp_of e244 c244_23 (rw_if_le (p1 := 34) (p2 := 26) (by decide) rfl ⟨Int.le_trans (by decide) b1240.1, Int.le_trans b1240.2 (by decide)⟩ (fun c1259 => ?_) (fun c1259 => ?_))
      · have _kb := (a1250).1
        refine wp_of e244 c244_34 (rw_aload_n (pc' := 35) (v := .ref r0) rfl rfl rfl ?_)
        refine wp_of e244 c244_35 (rw_aload_n (pc' := 36) (v := .ref r0) rfl rfl rfl ?_)
        refine wp_of e244 c244_36 (xg_I (pc' := 39) lf_9_422 w1237 g0 sh_42 (by decide) (by decide) ty_42_29 rfl rfl (fun b1260 b1261 => ?_))
        refine wp_of e244 c244_39 (rw_if_le (p1 := 46) (p2 := 42) (by decide) rfl ⟨Int.le_trans (by decide) b1260, Int.le_trans b1261 (by decide)⟩ (fun c1262 => ?_) (fun c1262 => ?_))
        · refine wp_of e244 c244_46 (rw_iconst (pc' := 47) rfl ?_)
          refine wp_of e244 c244_47 (xc_V (pc' := 50) (r := r0) (as := [vI 0]) (st := []) (lm_9_58) rfl rfl (Nat.le_of_ble_eq_true rfl) w1237 g0 sh_42 (by decide) rfl (by decide) (u_209  w1237 g0 ⟨by decide, by decide⟩) (fun R1263 T1264 H1265 p1266 => ?_))
          obtain ⟨e1267, w1269, f1270, z1271, e1268, b1272, p1273⟩ := p1266
          subst e1267
          subst e1268
          obtain ⟨a1274, a1275, a1276⟩ := p1273
          have f1277 := f1258.tr f1270 rfl
          show wp _ _ 244 50 [(1, vI z1239), (0, .ref r0)] [vI z1271] _ H1265 _
          have k1278 : wKI H1265 r0 = wKI H1233 r0 := (wKI_fr w1237 g0 f1270 rfl)
          have h1279 : KNN T H1265 r0 e d := (KNN_fr w1237 g0 f1270 rfl a1249)
          exact wp_ireturn e244 c244_50 rfl ⟨rfl, w1269, f1277, z1271, rfl, ⟨b1272.1, b1272.2⟩, (Or.inr ⟨by omega, by omega, by omega, by omega, h1279⟩)⟩
        · refine wp_of e244 c244_42 (rw_iconst (pc' := 43) rfl ?_)
          refine wp_of e244 c244_43 (rw_goto (p1 := 47) (by decide) ?_)
          refine wp_of e244 c244_47 (xc_V (pc' := 50) (r := r0) (as := [vI 1]) (st := []) (lm_9_58) rfl rfl (Nat.le_of_ble_eq_true rfl) w1237 g0 sh_42 (by decide) rfl (by decide) (u_209  w1237 g0 ⟨by decide, by decide⟩) (fun R1280 T1281 H1282 p1283 => ?_))
          obtain ⟨e1284, w1286, f1287, z1288, e1285, b1289, p1290⟩ := p1283
          subst e1284
          subst e1285
          obtain ⟨a1291, a1292, a1293⟩ := p1290
          have f1294 := f1258.tr f1287 rfl
          show wp _ _ 244 50 [(1, vI z1239), (0, .ref r0)] [vI z1288] _ H1282 _
          have k1295 : wKI H1282 r0 = wKI H1233 r0 := (wKI_fr w1237 g0 f1287 rfl)
          have h1296 : KNN T H1282 r0 e d := (KNN_fr w1237 g0 f1287 rfl a1249)
          exact wp_ireturn e244 c244_50 rfl ⟨rfl, w1286, f1294, z1288, rfl, ⟨b1289.1, b1289.2⟩, (Or.inr ⟨by omega, by omega, by omega, by omega, h1296⟩)⟩
      · exfalso
        omega
    · have f1297 := f1173.tr f1238 rfl
      show wp _ _ 244 21 [(0, .ref r0)] [vI z1239] _ H1233 _
      refine wp_of e244 c244_21 (rw_istore_n (pc' := 22) (z := z1239) (L' := [(1, vI z1239), (0, .ref r0)]) rfl rfl rfl ?_)
      refine wp_of e244 c244_22 (rw_iload_n (pc' := 23) (z := z1239) rfl rfl ?_)
      refine wp_of e244 c244_23 (rw_if_le (p1 := 34) (p2 := 26) (by decide) rfl ⟨Int.le_trans (by decide) b1240.1, Int.le_trans b1240.2 (by decide)⟩ (fun c1298 => ?_) (fun c1298 => ?_))
      · exfalso
        omega
      · refine wp_of e244 c244_26 (rw_aload_n (pc' := 27) (v := .ref r0) rfl rfl rfl ?_)
        refine wp_of e244 c244_27 (rw_iload_n (pc' := 28) (z := z1239) rfl rfl ?_)
        refine wp_of e244 c244_28 (xc_V (pc' := 31) (r := r0) (as := [vI z1239]) (st := []) (lm_9_54) rfl rfl (Nat.le_of_ble_eq_true rfl) w1237 g0 sh_42 (by decide) rfl (by decide) (u_170  w1237 g0 ⟨Int.le_trans (by decide) b1240.1, Int.le_trans b1240.2 (by decide)⟩) (fun R1299 T1300 H1301 p1302 => ?_))
        obtain ⟨e1303, w1305, f1306, z1307, e1304, b1308, p1309⟩ := p1302
        subst e1303
        subst e1304
        obtain ⟨a1310, a1311, a1312⟩ := p1309
        have f1313 := f1297.tr f1306 rfl
        show wp _ _ 244 31 [(1, vI z1239), (0, .ref r0)] [vI z1307] _ H1301 _
        refine wp_of e244 c244_31 (rw_goto (p1 := 50) (by decide) ?_)
        have k1314 : wKI H1301 r0 = wKI H1233 r0 := (wKI_fr w1237 g0 f1306 rfl)
        have h1315 : KNN T H1301 r0 e d := (KNN_fr w1237 g0 f1306 rfl a1257)
        exact wp_ireturn e244 c244_50 rfl ⟨rfl, w1305, f1313, z1307, rfl, ⟨b1308.1, b1308.2⟩, (Or.inl ⟨by omega, by omega, by omega, h1315⟩)⟩
/-! StrikeAwakeModel.world(II)I  -/
abbrev uq_245 (r0 : Nat) (a1 : Int) (a2 : Int) (e : xD) (d : xD) (T : wq_T) (H : wq_H) : Option Value → wq_T → wq_H → Prop := fun r T' H' => T = T' ∧ WT T H' ∧ wfr [(42, 0), (42, 1), (42, 2), (42, 28), (42, 29), (51, 999), (52, 999)] T H H' ∧ ∃ z : Int, some (vI z) = r ∧ ((-2147483648) ≤ z ∧ z ≤ 2147483647) ∧ (((wKI H' r0 = 1) ∧ KNN T H' r0 e d))
set_option maxHeartbeats 4000000 in
theorem u_245 {kt : Nat → Option mc_E} {T : wq_T} {H : wq_H} {r0 : Nat} {a1 : Int} {a2 : Int} {e : xD} {d : xD} (hW : WT T H) (g0 : T.2.2.2 r0 = some 42) (i1 : (-2147483648) ≤ a1 ∧ a1 ≤ 2147483647) (i2 : (-2147483648) ≤ a2 ∧ a2 ≤ 2147483647) (p0 : wKI H r0 = 1) (p1 : XW d) (p2 : ∀ h : Nat, d 0 0 ≤ (h : Int) → h < 24 → e 13 h = 0) (p3 : XN d) (p4 : ∀ h : Nat, h < 24 → 0 ≤ e 13 h ∧ e 13 h ≤ 100) (hRB_r0 : RB T H r0 e d) (hKNN_r0 : KNN T H r0 e d) : wpc kt 8 245 [.ref r0, vI a1, vI a2] T H (uq_245 r0 a1 a2 e d T H) := by
  refine wp_enter e245 (Nat.le_of_ble_eq_true rfl) rfl ?_
  have f0 : wfr [(42, 0), (42, 1), (42, 2), (42, 28), (42, 29), (51, 999), (52, 999)] T H H := wfr.rf
  show wp _ _ 245 0 [(0, .ref r0), (1, vI a1), (2, vI a2)] [] _ H _
  have _b := RB_b hW hRB_r0
  have _nu := RB_n3 hRB_r0
  have _lm := RB_lm hRB_r0
  refine wp_of e245 c245_0 (rw_aload_n (pc' := 1) (v := .ref r0) rfl rfl rfl ?_)
  refine wp_of e245 c245_1 (rw_iconst (pc' := 2) rfl ?_)
  refine wp_of e245 c245_2 (xp_I (pc' := 5) lf_9_48 hW g0 sh_42 (by decide) (by decide) ty_42_0 rfl rfl (by decide) (by decide) ⟨by decide, by decide⟩ rfl (fun H1297 e1298 w1299 => ?_))
  have f1300 := f0.put' e1298 g0 rfl
  have k1301 : H1297 r0 0 = 0 := wq_u_s e1298
  refine wp_of e245 c245_5 (rw_aload_n (pc' := 6) (v := .ref r0) rfl rfl rfl ?_)
  refine wp_of e245 c245_6 (rw_aload_n (pc' := 7) (v := .ref r0) rfl rfl rfl ?_)
  refine wp_of e245 c245_7 (rw_iload_n (pc' := 8) (z := a2) rfl rfl ?_)
  refine wp_of e245 c245_8 (xc_V (pc' := 11) (r := r0) (as := [vI a2]) (st := [.ref r0]) (lm_9_364) rfl rfl (Nat.le_of_ble_eq_true rfl) w1299 g0 sh_42 (by decide) rfl (by decide) (s_213 w1299 g0 ⟨i2.1, i2.2⟩) (fun R1302 T1303 H1304 p1305 => ?_))
  obtain ⟨e1306, e1308, z1310, e1307, b1311, p1309⟩ := p1305
  subst e1306
  subst e1307
  subst e1308
  show wp _ _ 245 11 [(0, .ref r0), (1, vI a1), (2, vI a2)] [vI z1310, .ref r0] _ H1297 _
  refine wp_of e245 c245_11 (rw_if_eq (p1 := 22) (p2 := 14) (by decide) rfl ⟨Int.le_trans (by decide) b1311.1, Int.le_trans b1311.2 (by decide)⟩ (fun c1312 => ?_) (fun c1312 => ?_))
  · refine wp_of e245 c245_22 (rw_iconst (pc' := 23) rfl ?_)
    have k1313 : H1297 r0 3 = H r0 3 := (wq_u_j e1298 rfl)
    have k1314 : wKI H1297 r0 = wKI H r0 := (wKI_fr hW g0 ((wfr.rf (l := [(42, 0)])).put' e1298 g0 rfl) rfl)
    have h1315 : RB T H1297 r0 e d := (RB_fr hW g0 ((wfr.rf (l := [(42, 0)])).put' e1298 g0 rfl) rfl hRB_r0)
    have h1316 : KNN T H1297 r0 e d := (KNN_fr hW g0 ((wfr.rf (l := [(42, 0)])).put' e1298 g0 rfl) rfl hKNN_r0)
    refine wp_of e245 c245_23 (xc_V (pc' := 26) (r := r0) (as := [vI 0]) (st := []) (lm_9_433) rfl rfl (Nat.le_of_ble_eq_true rfl) w1299 g0 sh_42 (by decide) rfl (by decide) (u_241 (e := e) (d := d) w1299 g0 ⟨by decide, by decide⟩ (by omega) (by omega) (by assumption) (by assumption) (by assumption) (by assumption) h1315 h1316) (fun R1317 T1318 H1319 p1320 => ?_))
    obtain ⟨e1321, w1323, f1324, z1325, e1322, b1326, p1327⟩ := p1320
    subst e1321
    subst e1322
    rcases p1327 with ⟨a1328, a1329, a1330, a1331, a1332, a1333, a1334, a1335, a1336⟩ | ⟨a1337, a1338, a1339, a1340, a1341, a1342, a1343⟩
    · exfalso
      omega
    · have f1344 := f1300.tr f1324 rfl
      show wp _ _ 245 26 [(0, .ref r0), (1, vI a1), (2, vI a2)] [vI z1325] _ H1319 _
      have k1345 : wLM H1319 r0 = wLM H r0 := ((wLM_fr w1299 g0 f1324 rfl).trans (wLM_fr hW g0 ((wfr.rf (l := [(42, 0)])).put' e1298 g0 rfl) rfl))
      refine wp_of e245 c245_26 (rw_istore_n (pc' := 27) (z := z1325) (L' := [(3, vI z1325), (0, .ref r0), (1, vI a1), (2, vI a2)]) rfl rfl rfl ?_)
      refine wp_of e245 c245_27 (rw_iload_n (pc' := 28) (z := z1325) rfl rfl ?_)
      refine wp_of e245 c245_28 (rw_if_ne (p1 := 41) (p2 := 31) (by decide) rfl ⟨Int.le_trans (by decide) b1326.1, Int.le_trans b1326.2 (by decide)⟩ (fun c1346 => ?_) (fun c1346 => ?_))
      · refine wp_of e245 c245_41 (rw_iload_n (pc' := 42) (z := z1325) rfl rfl ?_)
        refine wp_of e245 c245_42 (rw_if_le (p1 := 51) (p2 := 45) (by decide) rfl ⟨Int.le_trans (by decide) b1326.1, Int.le_trans b1326.2 (by decide)⟩ (fun c1347 => ?_) (fun c1347 => ?_))
        · exfalso
          omega
        · refine wp_of e245 c245_45 (rw_aload_n (pc' := 46) (v := .ref r0) rfl rfl rfl ?_)
          refine wp_of e245 c245_46 (rw_iload_n (pc' := 47) (z := z1325) rfl rfl ?_)
          refine wp_of e245 c245_47 (xc_V (pc' := 50) (r := r0) (as := [vI z1325]) (st := []) (lm_9_54) rfl rfl (Nat.le_of_ble_eq_true rfl) w1323 g0 sh_42 (by decide) rfl (by decide) (s_170 w1323 g0 ⟨Int.le_trans (by decide) b1326.1, Int.le_trans b1326.2 (by decide)⟩) (fun R1348 T1349 H1350 p1351 => ?_))
          obtain ⟨e1352, w1354, f1355, z1356, e1353, b1357⟩ := p1351
          subst e1352
          subst e1353
          have f1358 := f1344.tr f1355 rfl
          show wp _ _ 245 50 [(3, vI z1325), (0, .ref r0), (1, vI a1), (2, vI a2)] [vI z1356] _ H1350 _
          have k1359 : wKI H1350 r0 = wKI H1319 r0 := (wKI_fr w1323 g0 f1355 rfl)
          have h1360 : KNN T H1350 r0 e d := (KNN_fr w1323 g0 f1355 rfl a1343)
          exact wp_ireturn e245 c245_50 rfl ⟨rfl, w1354, f1358, z1356, rfl, ⟨b1357.1, b1357.2⟩, ⟨by omega, h1360⟩⟩
      · exfalso
        omega
  · refine wp_of e245 c245_14 (rw_iload_n (pc' := 15) (z := a1) rfl rfl ?_)
    refine wp_of e245 c245_15 (rw_if_lt (p1 := 22) (p2 := 18) (by decide) rfl ⟨i1.1, i1.2⟩ (fun c1361 => ?_) (fun c1361 => ?_))
    · refine wp_of e245 c245_22 (rw_iconst (pc' := 23) rfl ?_)
      have k1362 : H1297 r0 3 = H r0 3 := (wq_u_j e1298 rfl)
      have k1363 : wKI H1297 r0 = wKI H r0 := (wKI_fr hW g0 ((wfr.rf (l := [(42, 0)])).put' e1298 g0 rfl) rfl)
      have h1364 : RB T H1297 r0 e d := (RB_fr hW g0 ((wfr.rf (l := [(42, 0)])).put' e1298 g0 rfl) rfl hRB_r0)
      have h1365 : KNN T H1297 r0 e d := (KNN_fr hW g0 ((wfr.rf (l := [(42, 0)])).put' e1298 g0 rfl) rfl hKNN_r0)
      refine wp_of e245 c245_23 (xc_V (pc' := 26) (r := r0) (as := [vI 0]) (st := []) (lm_9_433) rfl rfl (Nat.le_of_ble_eq_true rfl) w1299 g0 sh_42 (by decide) rfl (by decide) (u_241 (e := e) (d := d) w1299 g0 ⟨by decide, by decide⟩ (by omega) (by omega) (by assumption) (by assumption) (by assumption) (by assumption) h1364 h1365) (fun R1366 T1367 H1368 p1369 => ?_))
      obtain ⟨e1370, w1372, f1373, z1374, e1371, b1375, p1376⟩ := p1369
      subst e1370
      subst e1371
      rcases p1376 with ⟨a1377, a1378, a1379, a1380, a1381, a1382, a1383, a1384, a1385⟩ | ⟨a1386, a1387, a1388, a1389, a1390, a1391, a1392⟩
      · exfalso
        omega
      · have f1393 := f1300.tr f1373 rfl
        show wp _ _ 245 26 [(0, .ref r0), (1, vI a1), (2, vI a2)] [vI z1374] _ H1368 _
        have k1394 : wLM H1368 r0 = wLM H r0 := ((wLM_fr w1299 g0 f1373 rfl).trans (wLM_fr hW g0 ((wfr.rf (l := [(42, 0)])).put' e1298 g0 rfl) rfl))
        refine wp_of e245 c245_26 (rw_istore_n (pc' := 27) (z := z1374) (L' := [(3, vI z1374), (0, .ref r0), (1, vI a1), (2, vI a2)]) rfl rfl rfl ?_)
        refine wp_of e245 c245_27 (rw_iload_n (pc' := 28) (z := z1374) rfl rfl ?_)
        refine wp_of e245 c245_28 (rw_if_ne (p1 := 41) (p2 := 31) (by decide) rfl ⟨Int.le_trans (by decide) b1375.1, Int.le_trans b1375.2 (by decide)⟩ (fun c1395 => ?_) (fun c1395 => ?_))
        · refine wp_of e245 c245_41 (rw_iload_n (pc' := 42) (z := z1374) rfl rfl ?_)
          refine wp_of e245 c245_42 (rw_if_le (p1 := 51) (p2 := 45) (by decide) rfl ⟨Int.le_trans (by decide) b1375.1, Int.le_trans b1375.2 (by decide)⟩ (fun c1396 => ?_) (fun c1396 => ?_))
          · exfalso
            omega
          · refine wp_of e245 c245_45 (rw_aload_n (pc' := 46) (v := .ref r0) rfl rfl rfl ?_)
            refine wp_of e245 c245_46 (rw_iload_n (pc' := 47) (z := z1374) rfl rfl ?_)
            refine wp_of e245 c245_47 (xc_V (pc' := 50) (r := r0) (as := [vI z1374]) (st := []) (lm_9_54) rfl rfl (Nat.le_of_ble_eq_true rfl) w1372 g0 sh_42 (by decide) rfl (by decide) (s_170 w1372 g0 ⟨Int.le_trans (by decide) b1375.1, Int.le_trans b1375.2 (by decide)⟩) (fun R1397 T1398 H1399 p1400 => ?_))
            obtain ⟨e1401, w1403, f1404, z1405, e1402, b1406⟩ := p1400
            subst e1401
            subst e1402
            have f1407 := f1393.tr f1404 rfl
            show wp _ _ 245 50 [(3, vI z1374), (0, .ref r0), (1, vI a1), (2, vI a2)] [vI z1405] _ H1399 _
            have k1408 : wKI H1399 r0 = wKI H1368 r0 := (wKI_fr w1372 g0 f1404 rfl)
            have h1409 : KNN T H1399 r0 e d := (KNN_fr w1372 g0 f1404 rfl a1392)
            exact wp_ireturn e245 c245_50 rfl ⟨rfl, w1403, f1407, z1405, rfl, ⟨b1406.1, b1406.2⟩, ⟨by omega, h1409⟩⟩
        · exfalso
          omega
    · refine wp_of e245 c245_18 (rw_iconst (pc' := 19) rfl ?_)
      refine wp_of e245 c245_19 (rw_goto (p1 := 23) (by decide) ?_)
      have k1410 : H1297 r0 3 = H r0 3 := (wq_u_j e1298 rfl)
      have k1411 : wKI H1297 r0 = wKI H r0 := (wKI_fr hW g0 ((wfr.rf (l := [(42, 0)])).put' e1298 g0 rfl) rfl)
      have h1412 : RB T H1297 r0 e d := (RB_fr hW g0 ((wfr.rf (l := [(42, 0)])).put' e1298 g0 rfl) rfl hRB_r0)
      have h1413 : KNN T H1297 r0 e d := (KNN_fr hW g0 ((wfr.rf (l := [(42, 0)])).put' e1298 g0 rfl) rfl hKNN_r0)
      refine wp_of e245 c245_23 (xc_V (pc' := 26) (r := r0) (as := [vI 1]) (st := []) (lm_9_433) rfl rfl (Nat.le_of_ble_eq_true rfl) w1299 g0 sh_42 (by decide) rfl (by decide) (u_241 (e := e) (d := d) w1299 g0 ⟨by decide, by decide⟩ (by omega) (by omega) (by assumption) (by assumption) (by assumption) (by assumption) h1412 h1413) (fun R1414 T1415 H1416 p1417 => ?_))
      obtain ⟨e1418, w1420, f1421, z1422, e1419, b1423, p1424⟩ := p1417
      subst e1418
      subst e1419
      rcases p1424 with ⟨a1425, a1426, a1427, a1428, a1429, a1430, a1431, a1432, a1433⟩ | ⟨a1434, a1435, a1436, a1437, a1438, a1439, a1440⟩
      · have f1441 := f1300.tr f1421 rfl
        show wp _ _ 245 26 [(0, .ref r0), (1, vI a1), (2, vI a2)] [vI z1422] _ H1416 _
        have k1442 : wLM H1416 r0 = wLM H r0 := ((wLM_fr w1299 g0 f1421 rfl).trans (wLM_fr hW g0 ((wfr.rf (l := [(42, 0)])).put' e1298 g0 rfl) rfl))
        refine wp_of e245 c245_26 (rw_istore_n (pc' := 27) (z := z1422) (L' := [(3, vI z1422), (0, .ref r0), (1, vI a1), (2, vI a2)]) rfl rfl rfl ?_)
        refine wp_of e245 c245_27 (rw_iload_n (pc' := 28) (z := z1422) rfl rfl ?_)
        refine wp_of e245 c245_28 (rw_if_ne (p1 := 41) (p2 := 31) (by decide) rfl ⟨Int.le_trans (by decide) b1423.1, Int.le_trans b1423.2 (by decide)⟩ (fun c1443 => ?_) (fun c1443 => ?_))
        · exfalso
          omega
        · refine wp_of e245 c245_31 (rw_iload_n (pc' := 32) (z := a1) rfl rfl ?_)
          refine wp_of e245 c245_32 (rw_aload_n (pc' := 33) (v := .ref r0) rfl rfl rfl ?_)
          refine wp_of e245 c245_33 (xg_I (pc' := 36) lf_9_422 w1420 g0 sh_42 (by decide) (by decide) ty_42_29 rfl rfl (fun b1444 b1445 => ?_))
          refine wp_of e245 c245_36 (rw_icmp_lt (p1 := 41) (p2 := 39) (by decide) rfl ⟨i1.1, i1.2⟩ ⟨Int.le_trans (by decide) b1444, Int.le_trans b1445 (by decide)⟩ (fun c1446 => ?_) (fun c1446 => ?_))
          · refine wp_of e245 c245_41 (rw_iload_n (pc' := 42) (z := z1422) rfl rfl ?_)
            refine wp_of e245 c245_42 (rw_if_le (p1 := 51) (p2 := 45) (by decide) rfl ⟨Int.le_trans (by decide) b1423.1, Int.le_trans b1423.2 (by decide)⟩ (fun c1447 => ?_) (fun c1447 => ?_))
            · refine wp_of e245 c245_51 (rw_aload_n (pc' := 52) (v := .ref r0) rfl rfl rfl ?_)
              refine wp_of e245 c245_52 (rw_aload_n (pc' := 53) (v := .ref r0) rfl rfl rfl ?_)
              refine wp_of e245 c245_53 (xg_R (pc' := 56) lf_9_42 w1420 g0 sh_42 (by decide) (by decide) ty_42_30 rfl rfl (fun r1448 q1449 g1450 => ?_))
              refine wp_of e245 c245_56 (rw_iload_n (pc' := 57) (z := a1) rfl rfl ?_)
              refine wp_of e245 c245_57 (xa_I (so := 0) (pc' := 58) w1420 g1450 sh_52 (by decide) (ty_52 _) (by omega) (by omega) rfl (fun b1451 b1452 => ?_))
              have k1453 : H1416 r0 3 = H1297 r0 3 := (f1421 r0 3 _ g0 rfl)
              obtain ⟨r1454, q1455, g1456⟩ := (w1420.opt g0 (t' := 54) (n := 33) (j := 3) (p := 0) (q := 0) rfl (by decide) rfl).resolve_left (by omega)
              refine wp_of e245 c245_58 (xc_V (pc' := 61) (r := r0) (as := [vI (H1416 r1448 (a1.toNat))]) (st := []) (lm_9_425) rfl rfl (Nat.le_of_ble_eq_true rfl) w1420 g0 sh_42 (by decide) rfl (by decide) (s_243 w1420 g0 ⟨b1451, Int.le_trans b1452 (by decide)⟩ q1455 g1456 (by omega)) (fun R1457 T1458 H1459 p1460 => ?_))
              obtain ⟨e1461, w1463, f1464, e1462⟩ := p1460
              subst e1461
              subst e1462
              have f1465 := f1441.tr f1464 rfl
              show wp _ _ 245 61 [(3, vI z1422), (0, .ref r0), (1, vI a1), (2, vI a2)] [] _ H1459 _
              refine wp_of e245 c245_61 (rw_aload_n (pc' := 62) (v := .ref r0) rfl rfl rfl ?_)
              refine wp_of e245 c245_62 (rw_aload_n (pc' := 63) (v := .ref r0) rfl rfl rfl ?_)
              refine wp_of e245 c245_63 (xg_R (pc' := 66) lf_9_39 w1463 g0 sh_42 (by decide) (by decide) ty_42_27 rfl rfl (fun r1466 q1467 g1468 => ?_))
              refine wp_of e245 c245_66 (rw_iload_n (pc' := 67) (z := a2) rfl rfl ?_)
              refine wp_of e245 c245_67 (xa_I (so := 0) (pc' := 68) w1463 g1468 sh_51 (by decide) (ty_51 _) (by omega) (by omega) rfl (fun b1469 b1470 => ?_))
              refine wp_of e245 c245_68 (xc_V (pc' := 71) (r := r0) (as := [vI (H1459 r1466 (a2.toNat))]) (st := []) (lm_9_58) rfl rfl (Nat.le_of_ble_eq_true rfl) w1463 g0 sh_42 (by decide) rfl (by decide) (s_209 w1463 g0 ⟨Int.le_trans (by decide) b1469, Int.le_trans b1470 (by decide)⟩) (fun R1471 T1472 H1473 p1474 => ?_))
              obtain ⟨e1475, w1477, f1478, z1479, e1476, b1480⟩ := p1474
              subst e1475
              subst e1476
              have f1481 := f1465.tr f1478 rfl
              show wp _ _ 245 71 [(3, vI z1422), (0, .ref r0), (1, vI a1), (2, vI a2)] [vI z1479] _ H1473 _
              have k1482 : wKI H1473 r0 = wKI H1416 r0 := ((wKI_fr w1463 g0 f1478 rfl).trans (wKI_fr w1420 g0 f1464 rfl))
              have h1483 : KNN T H1473 r0 e d := (KNN_fr w1463 g0 f1478 rfl (KNN_fr w1420 g0 f1464 rfl a1432))
              exact wp_ireturn e245 c245_71 rfl ⟨rfl, w1477, f1481, z1479, rfl, ⟨b1480.1, b1480.2⟩, ⟨by omega, h1483⟩⟩
            · exfalso
              omega
          · refine wp_of e245 c245_39 (rw_iconst (pc' := 40) rfl ?_)
            refine wp_of e245 c245_40 (rw_istore_n (pc' := 41) (z := 1) (L' := [(3, vI 1), (0, .ref r0), (1, vI a1), (2, vI a2)]) rfl rfl rfl ?_)
            refine wp_of e245 c245_41 (rw_iload_n (pc' := 42) (z := 1) rfl rfl ?_)
            refine wp_of e245 c245_42 (rw_if_le (p1 := 51) (p2 := 45) (by decide) rfl ⟨by decide, by decide⟩ (fun c1484 => ?_) (fun c1484 => ?_))
            · exfalso
              omega
            · refine wp_of e245 c245_45 (rw_aload_n (pc' := 46) (v := .ref r0) rfl rfl rfl ?_)
              refine wp_of e245 c245_46 (rw_iload_n (pc' := 47) (z := 1) rfl rfl ?_)
              refine wp_of e245 c245_47 (xc_V (pc' := 50) (r := r0) (as := [vI 1]) (st := []) (lm_9_54) rfl rfl (Nat.le_of_ble_eq_true rfl) w1420 g0 sh_42 (by decide) rfl (by decide) (s_170 w1420 g0 ⟨by decide, by decide⟩) (fun R1485 T1486 H1487 p1488 => ?_))
              obtain ⟨e1489, w1491, f1492, z1493, e1490, b1494⟩ := p1488
              subst e1489
              subst e1490
              have f1495 := f1441.tr f1492 rfl
              show wp _ _ 245 50 [(3, vI 1), (0, .ref r0), (1, vI a1), (2, vI a2)] [vI z1493] _ H1487 _
              have k1496 : wKI H1487 r0 = wKI H1416 r0 := (wKI_fr w1420 g0 f1492 rfl)
              have h1497 : KNN T H1487 r0 e d := (KNN_fr w1420 g0 f1492 rfl a1432)
              exact wp_ireturn e245 c245_50 rfl ⟨rfl, w1491, f1495, z1493, rfl, ⟨b1494.1, b1494.2⟩, ⟨by omega, h1497⟩⟩
      · have f1498 := f1300.tr f1421 rfl
        show wp _ _ 245 26 [(0, .ref r0), (1, vI a1), (2, vI a2)] [vI z1422] _ H1416 _
        have k1499 : wLM H1416 r0 = wLM H r0 := ((wLM_fr w1299 g0 f1421 rfl).trans (wLM_fr hW g0 ((wfr.rf (l := [(42, 0)])).put' e1298 g0 rfl) rfl))
        refine wp_of e245 c245_26 (rw_istore_n (pc' := 27) (z := z1422) (L' := [(3, vI z1422), (0, .ref r0), (1, vI a1), (2, vI a2)]) rfl rfl rfl ?_)
        refine wp_of e245 c245_27 (rw_iload_n (pc' := 28) (z := z1422) rfl rfl ?_)
        refine wp_of e245 c245_28 (rw_if_ne (p1 := 41) (p2 := 31) (by decide) rfl ⟨Int.le_trans (by decide) b1423.1, Int.le_trans b1423.2 (by decide)⟩ (fun c1500 => ?_) (fun c1500 => ?_))
        · refine wp_of e245 c245_41 (rw_iload_n (pc' := 42) (z := z1422) rfl rfl ?_)
          refine wp_of e245 c245_42 (rw_if_le (p1 := 51) (p2 := 45) (by decide) rfl ⟨Int.le_trans (by decide) b1423.1, Int.le_trans b1423.2 (by decide)⟩ (fun c1501 => ?_) (fun c1501 => ?_))
          · exfalso
            omega
          · refine wp_of e245 c245_45 (rw_aload_n (pc' := 46) (v := .ref r0) rfl rfl rfl ?_)
            refine wp_of e245 c245_46 (rw_iload_n (pc' := 47) (z := z1422) rfl rfl ?_)
            refine wp_of e245 c245_47 (xc_V (pc' := 50) (r := r0) (as := [vI z1422]) (st := []) (lm_9_54) rfl rfl (Nat.le_of_ble_eq_true rfl) w1420 g0 sh_42 (by decide) rfl (by decide) (s_170 w1420 g0 ⟨Int.le_trans (by decide) b1423.1, Int.le_trans b1423.2 (by decide)⟩) (fun R1502 T1503 H1504 p1505 => ?_))
            obtain ⟨e1506, w1508, f1509, z1510, e1507, b1511⟩ := p1505
            subst e1506
            subst e1507
            have f1512 := f1498.tr f1509 rfl
            show wp _ _ 245 50 [(3, vI z1422), (0, .ref r0), (1, vI a1), (2, vI a2)] [vI z1510] _ H1504 _
            have k1513 : wKI H1504 r0 = wKI H1416 r0 := (wKI_fr w1420 g0 f1509 rfl)
            have h1514 : KNN T H1504 r0 e d := (KNN_fr w1420 g0 f1509 rfl a1440)
            exact wp_ireturn e245 c245_50 rfl ⟨rfl, w1508, f1512, z1510, rfl, ⟨b1511.1, b1511.2⟩, ⟨by omega, h1514⟩⟩
        · exfalso
          omega
/-! StrikeAwakeModel.weights()J  -/
abbrev uq_246 (r0 : Nat) (e : xD) (d : xD) (T : wq_T) (H : wq_H) : Option Value → wq_T → wq_H → Prop := fun r T' H' => T = T' ∧ WT T H' ∧ wfr [(42, 0), (42, 1), (42, 2), (42, 28), (42, 29), (51, 999), (52, 999)] T H H' ∧ ∃ z : Int, some (vL z) = r ∧ ((-9223372036854775808) ≤ z ∧ z ≤ 9223372036854775807) ∧ (((wKI H' r0 = 1) ∧ KNN T H' r0 e d))
set_option maxHeartbeats 4000000 in
theorem u_246 {kt : Nat → Option mc_E} {T : wq_T} {H : wq_H} {r0 : Nat} {e : xD} {d : xD} (hW : WT T H) (g0 : T.2.2.2 r0 = some 42) (p0 : wKI H r0 = 1) (p1 : XW d) (p2 : ∀ h : Nat, d 0 0 ≤ (h : Int) → h < 24 → e 13 h = 0) (p3 : XN d) (p4 : ∀ h : Nat, h < 24 → 0 ≤ e 13 h ∧ e 13 h ≤ 100) (hRB_r0 : RB T H r0 e d) (hKNN_r0 : KNN T H r0 e d) : wpc kt 8 246 [.ref r0] T H (uq_246 r0 e d T H) := by
  refine wp_enter e246 (Nat.le_of_ble_eq_true rfl) rfl ?_
  have f0 : wfr [(42, 0), (42, 1), (42, 2), (42, 28), (42, 29), (51, 999), (52, 999)] T H H := wfr.rf
  show wp _ _ 246 0 [(0, .ref r0)] [] _ H _
  have _b := RB_b hW hRB_r0
  have _nu := RB_n3 hRB_r0
  have _lm := RB_lm hRB_r0
  refine wp_of e246 c246_0 (rw_aload_n (pc' := 1) (v := .ref r0) rfl rfl rfl ?_)
  refine wp_of e246 c246_1 (rw_iconst (pc' := 2) rfl ?_)
  refine wp_of e246 c246_2 (xp_I (pc' := 5) lf_9_48 hW g0 sh_42 (by decide) (by decide) ty_42_0 rfl rfl (by decide) (by decide) ⟨by decide, by decide⟩ rfl (fun H1153 e1154 w1155 => ?_))
  have f1156 := f0.put' e1154 g0 rfl
  have k1157 : H1153 r0 0 = 0 := wq_u_s e1154
  refine wp_of e246 c246_5 (rw_aload_n (pc' := 6) (v := .ref r0) rfl rfl rfl ?_)
  refine wp_of e246 c246_6 (rw_aload_n (pc' := 7) (v := .ref r0) rfl rfl rfl ?_)
  have k1158 : H1153 r0 3 = H r0 3 := (wq_u_j e1154 rfl)
  refine wp_of e246 c246_7 (xg_O (pc' := 10) lf_9_337 w1155 g0 sh_42 (by decide) (by decide) ty_42_3 rfl rfl (fun q1160 => ?_) (fun r1159 q1160 g1161 => ?_))
  · refine wp_of e246 c246_10 (rw_ifnull_n (p1 := 17) (p2 := 13) (by decide) rfl ?_)
    refine wp_of e246 c246_17 (rw_iconst (pc' := 18) rfl ?_)
    have k1162 : wKI H1153 r0 = wKI H r0 := (wKI_fr hW g0 ((wfr.rf (l := [(42, 0)])).put' e1154 g0 rfl) rfl)
    have h1163 : RB T H1153 r0 e d := (RB_fr hW g0 ((wfr.rf (l := [(42, 0)])).put' e1154 g0 rfl) rfl hRB_r0)
    have h1164 : KNN T H1153 r0 e d := (KNN_fr hW g0 ((wfr.rf (l := [(42, 0)])).put' e1154 g0 rfl) rfl hKNN_r0)
    refine wp_of e246 c246_18 (xc_V (pc' := 21) (r := r0) (as := [vI 0]) (st := []) (lm_9_433) rfl rfl (Nat.le_of_ble_eq_true rfl) w1155 g0 sh_42 (by decide) rfl (by decide) (u_241 (e := e) (d := d) w1155 g0 ⟨by decide, by decide⟩ (by omega) (by omega) (by assumption) (by assumption) (by assumption) (by assumption) h1163 h1164) (fun R1165 T1166 H1167 p1168 => ?_))
    obtain ⟨e1169, w1171, f1172, z1173, e1170, b1174, p1175⟩ := p1168
    subst e1169
    subst e1170
    rcases p1175 with ⟨a1176, a1177, a1178, a1179, a1180, a1181, a1182, a1183, a1184⟩ | ⟨a1185, a1186, a1187, a1188, a1189, a1190, a1191⟩
    · exfalso
      omega
    · have f1192 := f1156.tr f1172 rfl
      show wp _ _ 246 21 [(0, .ref r0)] [vI z1173] _ H1167 _
      have k1193 : wLM H1167 r0 = wLM H r0 := ((wLM_fr w1155 g0 f1172 rfl).trans (wLM_fr hW g0 ((wfr.rf (l := [(42, 0)])).put' e1154 g0 rfl) rfl))
      refine wp_of e246 c246_21 (rw_istore_n (pc' := 22) (z := z1173) (L' := [(1, vI z1173), (0, .ref r0)]) rfl rfl rfl ?_)
      refine wp_of e246 c246_22 (rw_iload_n (pc' := 23) (z := z1173) rfl rfl ?_)
      refine wp_of e246 c246_23 (rw_if_le (p1 := 35) (p2 := 26) (by decide) rfl ⟨Int.le_trans (by decide) b1174.1, Int.le_trans b1174.2 (by decide)⟩ (fun c1194 => ?_) (fun c1194 => ?_))
      · exfalso
        omega
      · refine wp_of e246 c246_26 (rw_aload_n (pc' := 27) (v := .ref r0) rfl rfl rfl ?_)
        refine wp_of e246 c246_27 (rw_iload_n (pc' := 28) (z := z1173) rfl rfl ?_)
        refine wp_of e246 c246_28 (xc_V (pc' := 31) (r := r0) (as := [vI z1173]) (st := []) (lm_9_54) rfl rfl (Nat.le_of_ble_eq_true rfl) w1171 g0 sh_42 (by decide) rfl (by decide) (s_170 w1171 g0 ⟨Int.le_trans (by decide) b1174.1, Int.le_trans b1174.2 (by decide)⟩) (fun R1195 T1196 H1197 p1198 => ?_))
        obtain ⟨e1199, w1201, f1202, z1203, e1200, b1204⟩ := p1198
        subst e1199
        subst e1200
        have f1205 := f1192.tr f1202 rfl
        show wp _ _ 246 31 [(1, vI z1173), (0, .ref r0)] [vI z1203] _ H1197 _
        refine wp_of e246 c246_31 (rw_i2l (pc' := 32) rfl ⟨b1204.1, b1204.2⟩ ?_)
        refine wp_of e246 c246_32 (rw_goto (p1 := 45) (by decide) ?_)
        have k1206 : wKI H1197 r0 = wKI H1167 r0 := (wKI_fr w1171 g0 f1202 rfl)
        have h1207 : KNN T H1197 r0 e d := (KNN_fr w1171 g0 f1202 rfl a1191)
        exact wp_lreturn e246 c246_45 rfl ⟨rfl, w1201, f1205, z1203, rfl, ⟨Int.le_trans (by decide) b1204.1, Int.le_trans b1204.2 (by decide)⟩, ⟨by omega, h1207⟩⟩
  · refine wp_of e246 c246_10 (rw_ifnull_r (p1 := 17) (p2 := 13) (by decide) rfl ?_)
    refine wp_of e246 c246_13 (rw_iconst (pc' := 14) rfl ?_)
    refine wp_of e246 c246_14 (rw_goto (p1 := 18) (by decide) ?_)
    have k1208 : wKI H1153 r0 = wKI H r0 := (wKI_fr hW g0 ((wfr.rf (l := [(42, 0)])).put' e1154 g0 rfl) rfl)
    have h1209 : RB T H1153 r0 e d := (RB_fr hW g0 ((wfr.rf (l := [(42, 0)])).put' e1154 g0 rfl) rfl hRB_r0)
    have h1210 : KNN T H1153 r0 e d := (KNN_fr hW g0 ((wfr.rf (l := [(42, 0)])).put' e1154 g0 rfl) rfl hKNN_r0)
    refine wp_of e246 c246_18 (xc_V (pc' := 21) (r := r0) (as := [vI 1]) (st := []) (lm_9_433) rfl rfl (Nat.le_of_ble_eq_true rfl) w1155 g0 sh_42 (by decide) rfl (by decide) (u_241 (e := e) (d := d) w1155 g0 ⟨by decide, by decide⟩ (by omega) (by omega) (by assumption) (by assumption) (by assumption) (by assumption) h1209 h1210) (fun R1211 T1212 H1213 p1214 => ?_))
    obtain ⟨e1215, w1217, f1218, z1219, e1216, b1220, p1221⟩ := p1214
    subst e1215
    subst e1216
    rcases p1221 with ⟨a1222, a1223, a1224, a1225, a1226, a1227, a1228, a1229, a1230⟩ | ⟨a1231, a1232, a1233, a1234, a1235, a1236, a1237⟩
    · have f1238 := f1156.tr f1218 rfl
      show wp _ _ 246 21 [(0, .ref r0)] [vI z1219] _ H1213 _
      have k1239 : wLM H1213 r0 = wLM H r0 := ((wLM_fr w1155 g0 f1218 rfl).trans (wLM_fr hW g0 ((wfr.rf (l := [(42, 0)])).put' e1154 g0 rfl) rfl))
      refine wp_of e246 c246_21 (rw_istore_n (pc' := 22) (z := z1219) (L' := [(1, vI z1219), (0, .ref r0)]) rfl rfl rfl ?_)
      refine wp_of e246 c246_22 (rw_iload_n (pc' := 23) (z := z1219) rfl rfl ?_)
      refine wp_of e246 c246_23 (rw_if_le (p1 := 35) (p2 := 26) (by decide) rfl ⟨Int.le_trans (by decide) b1220.1, Int.le_trans b1220.2 (by decide)⟩ (fun c1240 => ?_) (fun c1240 => ?_))
      · refine wp_of e246 c246_35 (rw_aload_n (pc' := 36) (v := .ref r0) rfl rfl rfl ?_)
        refine wp_of e246 c246_36 (rw_aload_n (pc' := 37) (v := .ref r0) rfl rfl rfl ?_)
        refine wp_of e246 c246_37 (rw_iconst (pc' := 38) rfl ?_)
        refine wp_of e246 c246_38 (rw_iconst (pc' := 39) rfl ?_)
        have k1241 : H1213 r0 3 = H1153 r0 3 := (f1218 r0 3 _ g0 rfl)
        have q1242 : H1213 r0 3 = (r1159 : Int) := k1241.trans q1160
        refine wp_of e246 c246_39 (xc_V (pc' := 42) (r := r0) (as := [vI (-1), vI 0]) (st := [.ref r0]) (lm_9_440) rfl rfl (Nat.le_of_ble_eq_true rfl) w1217 g0 sh_42 (by decide) rfl (by decide) (s_247 w1217 g0 ⟨by decide, by decide⟩ ⟨by decide, by decide⟩ q1242 g1161 (by omega)) (fun R1243 T1244 H1245 p1246 => ?_))
        obtain ⟨e1247, w1249, f1250, z1252, e1248, b1253, p1251⟩ := p1246
        subst e1247
        subst e1248
        have f1254 := f1238.tr f1250 rfl
        show wp _ _ 246 42 [(1, vI z1219), (0, .ref r0)] [vL z1252, .ref r0] _ H1245 _
        refine wp_of e246 c246_42 (xc_V (pc' := 45) (r := r0) (as := [vL z1252]) (st := []) (lm_9_380) rfl rfl (Nat.le_of_ble_eq_true rfl) w1249 g0 sh_42 (by decide) rfl (by decide) (s_221 w1249 g0 ⟨Int.le_trans (by decide) b1253.1, Int.le_trans b1253.2 (by decide)⟩) (fun R1255 T1256 H1257 p1258 => ?_))
        obtain ⟨e1259, w1261, f1262, z1263, e1260, b1264⟩ := p1258
        subst e1259
        subst e1260
        have f1265 := f1254.tr f1262 rfl
        show wp _ _ 246 45 [(1, vI z1219), (0, .ref r0)] [vL z1263] _ H1257 _
        have k1266 : wKI H1257 r0 = wKI H1213 r0 := ((wKI_fr w1249 g0 f1262 rfl).trans (wKI_fr w1217 g0 f1250 rfl))
        have h1267 : KNN T H1257 r0 e d := (KNN_fr w1249 g0 f1262 rfl (KNN_fr w1217 g0 f1250 rfl a1229))
        exact wp_lreturn e246 c246_45 rfl ⟨rfl, w1261, f1265, z1263, rfl, ⟨b1264.1, b1264.2⟩, ⟨by omega, h1267⟩⟩
      · exfalso
        omega
    · have f1268 := f1156.tr f1218 rfl
      show wp _ _ 246 21 [(0, .ref r0)] [vI z1219] _ H1213 _
      have k1269 : wLM H1213 r0 = wLM H r0 := ((wLM_fr w1155 g0 f1218 rfl).trans (wLM_fr hW g0 ((wfr.rf (l := [(42, 0)])).put' e1154 g0 rfl) rfl))
      refine wp_of e246 c246_21 (rw_istore_n (pc' := 22) (z := z1219) (L' := [(1, vI z1219), (0, .ref r0)]) rfl rfl rfl ?_)
      refine wp_of e246 c246_22 (rw_iload_n (pc' := 23) (z := z1219) rfl rfl ?_)
      refine wp_of e246 c246_23 (rw_if_le (p1 := 35) (p2 := 26) (by decide) rfl ⟨Int.le_trans (by decide) b1220.1, Int.le_trans b1220.2 (by decide)⟩ (fun c1270 => ?_) (fun c1270 => ?_))
      · exfalso
        omega
      · refine wp_of e246 c246_26 (rw_aload_n (pc' := 27) (v := .ref r0) rfl rfl rfl ?_)
        refine wp_of e246 c246_27 (rw_iload_n (pc' := 28) (z := z1219) rfl rfl ?_)
        refine wp_of e246 c246_28 (xc_V (pc' := 31) (r := r0) (as := [vI z1219]) (st := []) (lm_9_54) rfl rfl (Nat.le_of_ble_eq_true rfl) w1217 g0 sh_42 (by decide) rfl (by decide) (s_170 w1217 g0 ⟨Int.le_trans (by decide) b1220.1, Int.le_trans b1220.2 (by decide)⟩) (fun R1271 T1272 H1273 p1274 => ?_))
        obtain ⟨e1275, w1277, f1278, z1279, e1276, b1280⟩ := p1274
        subst e1275
        subst e1276
        have f1281 := f1268.tr f1278 rfl
        show wp _ _ 246 31 [(1, vI z1219), (0, .ref r0)] [vI z1279] _ H1273 _
        refine wp_of e246 c246_31 (rw_i2l (pc' := 32) rfl ⟨b1280.1, b1280.2⟩ ?_)
        refine wp_of e246 c246_32 (rw_goto (p1 := 45) (by decide) ?_)
        have k1282 : wKI H1273 r0 = wKI H1213 r0 := (wKI_fr w1217 g0 f1278 rfl)
        have h1283 : KNN T H1273 r0 e d := (KNN_fr w1217 g0 f1278 rfl a1237)
        exact wp_lreturn e246 c246_45 rfl ⟨rfl, w1277, f1281, z1279, rfl, ⟨Int.le_trans (by decide) b1280.1, Int.le_trans b1280.2 (by decide)⟩, ⟨by omega, h1283⟩⟩
/-! StrikeAwakeModel.having(II)I  -/
abbrev uq_249 (r0 : Nat) (a1 : Int) (a2 : Int) (e : xD) (d : xD) (T : wq_T) (H : wq_H) : Option Value → wq_T → wq_H → Prop := fun r T' H' => T = T' ∧ WT T H' ∧ wfr [(42, 0), (42, 1), (42, 2), (42, 28), (42, 29), (51, 999), (52, 999)] T H H' ∧ ∃ z : Int, some (vI z) = r ∧ ((-2147483648) ≤ z ∧ z ≤ 2147483647) ∧ (((wKI H' r0 = 1) ∧ KNN T H' r0 e d))
set_option maxHeartbeats 4000000 in
theorem u_249 {kt : Nat → Option mc_E} {T : wq_T} {H : wq_H} {r0 : Nat} {a1 : Int} {a2 : Int} {e : xD} {d : xD} (hW : WT T H) (g0 : T.2.2.2 r0 = some 42) (i1 : (-2147483648) ≤ a1 ∧ a1 ≤ 2147483647) (i2 : (-2147483648) ≤ a2 ∧ a2 ≤ 2147483647) (p0 : wKI H r0 = 1) (p1 : XW d) (p2 : ∀ h : Nat, d 0 0 ≤ (h : Int) → h < 24 → e 13 h = 0) (p3 : XN d) (p4 : ∀ h : Nat, h < 24 → 0 ≤ e 13 h ∧ e 13 h ≤ 100) (hRB_r0 : RB T H r0 e d) (hKNN_r0 : KNN T H r0 e d) : wpc kt 8 249 [.ref r0, vI a1, vI a2] T H (uq_249 r0 a1 a2 e d T H) := by
  refine wp_enter e249 (Nat.le_of_ble_eq_true rfl) rfl ?_
  have f0 : wfr [(42, 0), (42, 1), (42, 2), (42, 28), (42, 29), (51, 999), (52, 999)] T H H := wfr.rf
  show wp _ _ 249 0 [(0, .ref r0), (1, vI a1), (2, vI a2)] [] _ H _
  have _b := RB_b hW hRB_r0
  have _nu := RB_n3 hRB_r0
  have _lm := RB_lm hRB_r0
  refine wp_of e249 c249_0 (rw_aload_n (pc' := 1) (v := .ref r0) rfl rfl rfl ?_)
  refine wp_of e249 c249_1 (rw_iconst (pc' := 2) rfl ?_)
  refine wp_of e249 c249_2 (xp_I (pc' := 5) lf_9_48 hW g0 sh_42 (by decide) (by decide) ty_42_0 rfl rfl (by decide) (by decide) ⟨by decide, by decide⟩ rfl (fun H1370 e1371 w1372 => ?_))
  have f1373 := f0.put' e1371 g0 rfl
  have k1374 : H1370 r0 0 = 0 := wq_u_s e1371
  refine wp_of e249 c249_5 (rw_aload_n (pc' := 6) (v := .ref r0) rfl rfl rfl ?_)
  refine wp_of e249 c249_6 (rw_aload_n (pc' := 7) (v := .ref r0) rfl rfl rfl ?_)
  refine wp_of e249 c249_7 (rw_iload_n (pc' := 8) (z := a1) rfl rfl ?_)
  refine wp_of e249 c249_8 (rw_iload_n (pc' := 9) (z := a2) rfl rfl ?_)
  refine wp_of e249 c249_9 (xc_V (pc' := 12) (r := r0) (as := [vI a1, vI a2]) (st := [.ref r0]) (lm_9_367) rfl rfl (Nat.le_of_ble_eq_true rfl) w1372 g0 sh_42 (by decide) rfl (by decide) (s_215 w1372 g0 ⟨i1.1, i1.2⟩ ⟨i2.1, i2.2⟩) (fun R1375 T1376 H1377 p1378 => ?_))
  obtain ⟨e1379, e1381, z1383, e1380, b1384, p1382⟩ := p1378
  subst e1379
  subst e1380
  subst e1381
  show wp _ _ 249 12 [(0, .ref r0), (1, vI a1), (2, vI a2)] [vI z1383, .ref r0] _ H1370 _
  have k1385 : H1370 r0 3 = H r0 3 := (wq_u_j e1371 rfl)
  have k1386 : wKI H1370 r0 = wKI H r0 := (wKI_fr hW g0 ((wfr.rf (l := [(42, 0)])).put' e1371 g0 rfl) rfl)
  have h1387 : RB T H1370 r0 e d := (RB_fr hW g0 ((wfr.rf (l := [(42, 0)])).put' e1371 g0 rfl) rfl hRB_r0)
  have h1388 : KNN T H1370 r0 e d := (KNN_fr hW g0 ((wfr.rf (l := [(42, 0)])).put' e1371 g0 rfl) rfl hKNN_r0)
  refine wp_of e249 c249_12 (xc_V (pc' := 15) (r := r0) (as := [vI z1383]) (st := []) (lm_9_433) rfl rfl (Nat.le_of_ble_eq_true rfl) w1372 g0 sh_42 (by decide) rfl (by decide) (u_241 (e := e) (d := d) w1372 g0 ⟨b1384.1, b1384.2⟩ (by omega) (by omega) (by assumption) (by assumption) (by assumption) (by assumption) h1387 h1388) (fun R1389 T1390 H1391 p1392 => ?_))
  obtain ⟨e1393, w1395, f1396, z1397, e1394, b1398, p1399⟩ := p1392
  subst e1393
  subst e1394
  rcases p1399 with ⟨a1400, a1401, a1402, a1403, a1404, a1405, a1406, a1407, a1408⟩ | ⟨a1409, a1410, a1411, a1412, a1413, a1414, a1415⟩
  · have f1416 := f1373.tr f1396 rfl
    show wp _ _ 249 15 [(0, .ref r0), (1, vI a1), (2, vI a2)] [vI z1397] _ H1391 _
    have k1417 : wLM H1391 r0 = wLM H r0 := ((wLM_fr w1372 g0 f1396 rfl).trans (wLM_fr hW g0 ((wfr.rf (l := [(42, 0)])).put' e1371 g0 rfl) rfl))
    refine wp_of e249 c249_15 (rw_istore_n (pc' := 16) (z := z1397) (L' := [(3, vI z1397), (0, .ref r0), (1, vI a1), (2, vI a2)]) rfl rfl rfl ?_)
    refine wp_of e249 c249_16 (rw_iload_n (pc' := 17) (z := z1397) rfl rfl ?_)
    refine wp_of e249 c249_17 (rw_if_le (p1 := 26) (p2 := 20) (by decide) rfl ⟨Int.le_trans (by decide) b1398.1, Int.le_trans b1398.2 (by decide)⟩ (fun c1418 => ?_) (fun c1418 => ?_))
    · refine wp_of e249 c249_26 (rw_iconst (pc' := 27) rfl ?_)
      refine wp_of e249 c249_27 (rw_istore (pc' := 29) (z := 0) (L' := [(4, vI 0), (3, vI z1397), (0, .ref r0), (1, vI a1), (2, vI a2)]) rfl rfl rfl ?_)
      refine wp_of e249 c249_29 (rw_iconst (pc' := 30) rfl ?_)
      refine wp_of e249 c249_30 (rw_istore (pc' := 32) (z := 0) (L' := [(5, vI 0), (4, vI 0), (3, vI z1397), (0, .ref r0), (1, vI a1), (2, vI a2)]) rfl rfl rfl ?_)
      have lp1684 : ∀ (n1685 : Nat) (v1687 : Int) (v1688 : Int) (H1689 : wq_H), WT T H1689 → wfr [(51, 999)] T H1391 H1689 → (0 ≤ v1687 ∧ v1687 ≤ 20000) → ((-2147483648) ≤ v1688 ∧ v1688 ≤ 2147483647) → (20000 - v1687).toNat = n1685 → wp kt 7 249 32 [(5, vI v1687), (4, vI v1688), (0, .ref r0), (1, vI a1), (2, vI a2)] [] T H1689 (uq_249 r0 a1 a2 e d T H) := by
        intro n1685
        induction n1685 using Nat.strongRecOn with
        | _ n1685 ih1686 =>
          intro v1687 v1688 H1689 w1690 f1691 b1692 b1693 m1694
          have f1695 := f1416.tr f1691 rfl
          refine wp_of e249 c249_32 (rw_iload (pc' := 34) (z := v1687) rfl rfl ?_)
          refine wp_of e249 c249_34 (rw_aload_n (pc' := 35) (v := .ref r0) rfl rfl rfl ?_)
          have k1696 : H1689 r0 29 = H1391 r0 29 := (f1691 r0 29 _ g0 rfl)
          refine wp_of e249 c249_35 (xg_I (pc' := 38) lf_9_422 w1690 g0 sh_42 (by decide) (by decide) ty_42_29 rfl rfl (fun b1697 b1698 => ?_))
          refine wp_of e249 c249_38 (rw_icmp_ge (p1 := 78) (p2 := 41) (by decide) rfl ⟨Int.le_trans (by decide) b1692.1, Int.le_trans b1692.2 (by decide)⟩ ⟨Int.le_trans (by decide) b1697, Int.le_trans b1698 (by decide)⟩ (fun c1699 => ?_) (fun c1699 => ?_))
          · refine wp_of e249 c249_78 (rw_aload_n (pc' := 79) (v := .ref r0) rfl rfl rfl ?_)
            refine wp_of e249 c249_79 (rw_iload (pc' := 81) (z := v1688) rfl rfl ?_)
            refine wp_of e249 c249_81 (xc_V (pc' := 84) (r := r0) (as := [vI v1688]) (st := []) (lm_9_58) rfl rfl (Nat.le_of_ble_eq_true rfl) w1690 g0 sh_42 (by decide) rfl (by decide) (s_209 w1690 g0 ⟨b1693.1, b1693.2⟩) (fun R1700 T1701 H1702 p1703 => ?_))
            obtain ⟨e1704, w1706, f1707, z1708, e1705, b1709⟩ := p1703
            subst e1704
            subst e1705
            have f1710 := f1695.tr f1707 rfl
            show wp _ _ 249 84 [(5, vI v1687), (4, vI v1688), (0, .ref r0), (1, vI a1), (2, vI a2)] [vI z1708] _ H1702 _
            have k1711 : wKI H1702 r0 = wKI H1391 r0 := ((wKI_fr w1690 g0 f1707 rfl).trans (wKI_fr w1395 g0 f1691 rfl))
            have h1712 : KNN T H1702 r0 e d := (KNN_fr w1690 g0 f1707 rfl (KNN_fr w1395 g0 f1691 rfl a1407))
            exact wp_ireturn e249 c249_84 rfl ⟨rfl, w1706, f1710, z1708, rfl, ⟨b1709.1, b1709.2⟩, ⟨by omega, h1712⟩⟩
          · refine wp_of e249 c249_41 (rw_aload_n (pc' := 42) (v := .ref r0) rfl rfl rfl ?_)
            refine wp_of e249 c249_42 (rw_aload_n (pc' := 43) (v := .ref r0) rfl rfl rfl ?_)
            refine wp_of e249 c249_43 (xg_R (pc' := 46) lf_9_42 w1690 g0 sh_42 (by decide) (by decide) ty_42_30 rfl rfl (fun r1713 q1714 g1715 => ?_))
            refine wp_of e249 c249_46 (rw_iload (pc' := 48) (z := v1687) rfl rfl ?_)
            refine wp_of e249 c249_48 (xa_I (so := 0) (pc' := 49) w1690 g1715 sh_52 (by decide) (ty_52 _) (b1692.1) (by omega) rfl (fun b1716 b1717 => ?_))
            have k1718 : wLM H1689 r0 = wLM H1391 r0 := (wLM_fr w1395 g0 f1691 rfl)
            have k1719 : H1689 r0 3 = H1370 r0 3 := ((f1691 r0 3 _ g0 rfl).trans (f1396 r0 3 _ g0 rfl))
            obtain ⟨r1720, q1721, g1722⟩ := (w1690.opt g0 (t' := 54) (n := 33) (j := 3) (p := 0) (q := 0) rfl (by decide) rfl).resolve_left (by omega)
            refine wp_of e249 c249_49 (xc_V (pc' := 52) (r := r0) (as := [vI (H1689 r1713 (v1687.toNat))]) (st := []) (lm_9_425) rfl rfl (Nat.le_of_ble_eq_true rfl) w1690 g0 sh_42 (by decide) rfl (by decide) (s_243 w1690 g0 ⟨b1716, Int.le_trans b1717 (by decide)⟩ q1721 g1722 (by omega)) (fun R1723 T1724 H1725 p1726 => ?_))
            obtain ⟨e1727, w1729, f1730, e1728⟩ := p1726
            subst e1727
            subst e1728
            have f1731 := f1695.tr f1730 rfl
            have f1732 := f1691.tr f1730 rfl
            show wp _ _ 249 52 [(5, vI v1687), (4, vI v1688), (0, .ref r0), (1, vI a1), (2, vI a2)] [] _ H1725 _
            refine wp_of e249 c249_52 (rw_iload (pc' := 54) (z := v1688) rfl rfl ?_)
            refine wp_of e249 c249_54 (rw_aload_n (pc' := 55) (v := .ref r0) rfl rfl rfl ?_)
            refine wp_of e249 c249_55 (xg_R (pc' := 58) lf_9_39 w1729 g0 sh_42 (by decide) (by decide) ty_42_27 rfl rfl (fun r1733 q1734 g1735 => ?_))
            refine wp_of e249 c249_58 (rw_iload_n (pc' := 59) (z := a1) rfl rfl ?_)
            refine wp_of e249 c249_59 (xa_I (so := 0) (pc' := 60) w1729 g1735 sh_51 (by decide) (ty_51 _) (by omega) (by omega) rfl (fun b1736 b1737 => ?_))
            refine wp_of e249 c249_60 (rw_iload_n (pc' := 61) (z := a2) rfl rfl ?_)
            refine wp_of e249 c249_61 (rw_icmp_ne (p1 := 68) (p2 := 64) (by decide) rfl ⟨Int.le_trans (by decide) b1736, Int.le_trans b1737 (by decide)⟩ ⟨i2.1, i2.2⟩ (fun c1738 => ?_) (fun c1738 => ?_))
            · refine wp_of e249 c249_68 (rw_iconst (pc' := 69) rfl ?_)
              refine wp_of e249 c249_69 (rw_iadd (pc' := 70) rfl ?_)
              refine wp_of e249 c249_70 (rw_istore (pc' := 72) (z := v1688 + 0) (L' := [(4, vI (v1688 + 0)), (5, vI v1687), (0, .ref r0), (1, vI a1), (2, vI a2)]) rfl rfl rfl ?_)
              refine wp_of e249 c249_72 (rw_iinc (pc' := 75) (z := v1687) (L' := [(5, vI (v1687 + 1)), (4, vI (v1688 + 0)), (0, .ref r0), (1, vI a1), (2, vI a2)]) rfl rfl rfl rfl ?_)
              refine wp_of e249 c249_75 (rw_goto (p1 := 32) (by decide) ?_)
              exact wp_lc (ks := [5, 4, 0, 1, 2]) (wl_c rfl (wl_c rfl (wl_c rfl (wl_c rfl (wl_c rfl wl_n))))) rfl (by decide) (ih1686 _ (by omega) (v1687 + 1) (v1688 + 0) H1725 w1729 f1732 ⟨by omega, by omega⟩ ⟨by omega, by omega⟩ rfl)
            · refine wp_of e249 c249_64 (rw_iconst (pc' := 65) rfl ?_)
              refine wp_of e249 c249_65 (rw_goto (p1 := 69) (by decide) ?_)
              refine wp_of e249 c249_69 (rw_iaddw (pc' := 70) rfl ?_)
              obtain ⟨v1739, e1740⟩ : ∃ x : Int, x = wq_w (v1688 + 1) := ⟨_, rfl⟩
              rw [← e1740]
              have b1741 : -2147483648 ≤ v1739 ∧ v1739 ≤ 2147483647 := by
                rw [e1740]
                exact wI_w _
              have b1742 : (-2147483648 ≤ v1688 + 1 ∧ v1688 + 1 ≤ 2147483647) → v1739 = v1688 + 1 := fun h => by rw [e1740]; exact wq_w_id h
              refine wp_of e249 c249_70 (rw_istore (pc' := 72) (z := v1739) (L' := [(4, vI v1739), (5, vI v1687), (0, .ref r0), (1, vI a1), (2, vI a2)]) rfl rfl rfl ?_)
              refine wp_of e249 c249_72 (rw_iinc (pc' := 75) (z := v1687) (L' := [(5, vI (v1687 + 1)), (4, vI v1739), (0, .ref r0), (1, vI a1), (2, vI a2)]) rfl rfl rfl rfl ?_)
              refine wp_of e249 c249_75 (rw_goto (p1 := 32) (by decide) ?_)
              exact wp_lc (ks := [5, 4, 0, 1, 2]) (wl_c rfl (wl_c rfl (wl_c rfl (wl_c rfl (wl_c rfl wl_n))))) rfl (by decide) (ih1686 _ (by omega) (v1687 + 1) v1739 H1725 w1729 f1732 ⟨by omega, by omega⟩ ⟨b1741.1, b1741.2⟩ rfl)
      exact wp_lc (ks := [5, 4, 3, 0, 1, 2]) (wl_c rfl (wl_c rfl (wl_c rfl (wl_c rfl (wl_c rfl wl_n))))) rfl (by decide) (lp1684 _ 0 0 H1391 w1395 wfr.rf ⟨by decide, by decide⟩ ⟨by decide, by decide⟩ rfl)
    · exfalso
      omega
  · have f1743 := f1373.tr f1396 rfl
    show wp _ _ 249 15 [(0, .ref r0), (1, vI a1), (2, vI a2)] [vI z1397] _ H1391 _
    have k1744 : wLM H1391 r0 = wLM H r0 := ((wLM_fr w1372 g0 f1396 rfl).trans (wLM_fr hW g0 ((wfr.rf (l := [(42, 0)])).put' e1371 g0 rfl) rfl))
    refine wp_of e249 c249_15 (rw_istore_n (pc' := 16) (z := z1397) (L' := [(3, vI z1397), (0, .ref r0), (1, vI a1), (2, vI a2)]) rfl rfl rfl ?_)
    refine wp_of e249 c249_16 (rw_iload_n (pc' := 17) (z := z1397) rfl rfl ?_)
    refine wp_of e249 c249_17 (rw_if_le (p1 := 26) (p2 := 20) (by decide) rfl ⟨Int.le_trans (by decide) b1398.1, Int.le_trans b1398.2 (by decide)⟩ (fun c1745 => ?_) (fun c1745 => ?_))
    · exfalso
      omega
    · refine wp_of e249 c249_20 (rw_aload_n (pc' := 21) (v := .ref r0) rfl rfl rfl ?_)
      refine wp_of e249 c249_21 (rw_iload_n (pc' := 22) (z := z1397) rfl rfl ?_)
      refine wp_of e249 c249_22 (xc_V (pc' := 25) (r := r0) (as := [vI z1397]) (st := []) (lm_9_54) rfl rfl (Nat.le_of_ble_eq_true rfl) w1395 g0 sh_42 (by decide) rfl (by decide) (s_170 w1395 g0 ⟨Int.le_trans (by decide) b1398.1, Int.le_trans b1398.2 (by decide)⟩) (fun R1746 T1747 H1748 p1749 => ?_))
      obtain ⟨e1750, w1752, f1753, z1754, e1751, b1755⟩ := p1749
      subst e1750
      subst e1751
      have f1756 := f1743.tr f1753 rfl
      show wp _ _ 249 25 [(3, vI z1397), (0, .ref r0), (1, vI a1), (2, vI a2)] [vI z1754] _ H1748 _
      have k1757 : wKI H1748 r0 = wKI H1391 r0 := (wKI_fr w1395 g0 f1753 rfl)
      have h1758 : KNN T H1748 r0 e d := (KNN_fr w1395 g0 f1753 rfl a1415)
      exact wp_ireturn e249 c249_25 rfl ⟨rfl, w1752, f1756, z1754, rfl, ⟨b1755.1, b1755.2⟩, ⟨by omega, h1758⟩⟩
/-! StrikeAwakeModel.times(II)I  -/
abbrev uq_250 (r0 : Nat) (a1 : Int) (a2 : Int) (e : xD) (d : xD) (T : wq_T) (H : wq_H) : Option Value → wq_T → wq_H → Prop := fun r T' H' => T = T' ∧ WT T H' ∧ wfr [(42, 0), (42, 1), (42, 2), (42, 28), (42, 29), (51, 999), (52, 999)] T H H' ∧ ∃ z : Int, some (vI z) = r ∧ ((-2147483648) ≤ z ∧ z ≤ 2147483647) ∧ (((wKI H' r0 = 1) ∧ KNN T H' r0 e d))
set_option maxHeartbeats 4000000 in
theorem u_250 {kt : Nat → Option mc_E} {T : wq_T} {H : wq_H} {r0 : Nat} {a1 : Int} {a2 : Int} {e : xD} {d : xD} (hW : WT T H) (g0 : T.2.2.2 r0 = some 42) (i1 : (-2147483648) ≤ a1 ∧ a1 ≤ 2147483647) (i2 : (-2147483648) ≤ a2 ∧ a2 ≤ 2147483647) (p0 : wKI H r0 = 1) (p1 : XW d) (p2 : ∀ h : Nat, d 0 0 ≤ (h : Int) → h < 24 → e 13 h = 0) (p3 : XN d) (p4 : ∀ h : Nat, h < 24 → 0 ≤ e 13 h ∧ e 13 h ≤ 100) (hRB_r0 : RB T H r0 e d) (hKNN_r0 : KNN T H r0 e d) : wpc kt 8 250 [.ref r0, vI a1, vI a2] T H (uq_250 r0 a1 a2 e d T H) := by
  refine wp_enter e250 (Nat.le_of_ble_eq_true rfl) rfl ?_
  have f0 : wfr [(42, 0), (42, 1), (42, 2), (42, 28), (42, 29), (51, 999), (52, 999)] T H H := wfr.rf
  show wp _ _ 250 0 [(0, .ref r0), (1, vI a1), (2, vI a2)] [] _ H _
  have _b := RB_b hW hRB_r0
  have _nu := RB_n3 hRB_r0
  have _lm := RB_lm hRB_r0
  refine wp_of e250 c250_0 (rw_aload_n (pc' := 1) (v := .ref r0) rfl rfl rfl ?_)
  refine wp_of e250 c250_1 (rw_iconst (pc' := 2) rfl ?_)
  refine wp_of e250 c250_2 (xp_I (pc' := 5) lf_9_48 hW g0 sh_42 (by decide) (by decide) ty_42_0 rfl rfl (by decide) (by decide) ⟨by decide, by decide⟩ rfl (fun H1244 e1245 w1246 => ?_))
  have f1247 := f0.put' e1245 g0 rfl
  have k1248 : H1244 r0 0 = 0 := wq_u_s e1245
  refine wp_of e250 c250_5 (rw_aload_n (pc' := 6) (v := .ref r0) rfl rfl rfl ?_)
  refine wp_of e250 c250_6 (rw_aload_n (pc' := 7) (v := .ref r0) rfl rfl rfl ?_)
  refine wp_of e250 c250_7 (rw_iload_n (pc' := 8) (z := a1) rfl rfl ?_)
  refine wp_of e250 c250_8 (xc_V (pc' := 11) (r := r0) (as := [vI a1]) (st := [.ref r0]) (lm_9_364) rfl rfl (Nat.le_of_ble_eq_true rfl) w1246 g0 sh_42 (by decide) rfl (by decide) (s_213 w1246 g0 ⟨i1.1, i1.2⟩) (fun R1249 T1250 H1251 p1252 => ?_))
  obtain ⟨e1253, e1255, z1257, e1254, b1258, p1256⟩ := p1252
  subst e1253
  subst e1254
  subst e1255
  show wp _ _ 250 11 [(0, .ref r0), (1, vI a1), (2, vI a2)] [vI z1257, .ref r0] _ H1244 _
  refine wp_of e250 c250_11 (rw_if_eq (p1 := 26) (p2 := 14) (by decide) rfl ⟨Int.le_trans (by decide) b1258.1, Int.le_trans b1258.2 (by decide)⟩ (fun c1259 => ?_) (fun c1259 => ?_))
  · refine wp_of e250 c250_26 (rw_iconst (pc' := 27) rfl ?_)
    have k1260 : H1244 r0 3 = H r0 3 := (wq_u_j e1245 rfl)
    have k1261 : wKI H1244 r0 = wKI H r0 := (wKI_fr hW g0 ((wfr.rf (l := [(42, 0)])).put' e1245 g0 rfl) rfl)
    have h1262 : RB T H1244 r0 e d := (RB_fr hW g0 ((wfr.rf (l := [(42, 0)])).put' e1245 g0 rfl) rfl hRB_r0)
    have h1263 : KNN T H1244 r0 e d := (KNN_fr hW g0 ((wfr.rf (l := [(42, 0)])).put' e1245 g0 rfl) rfl hKNN_r0)
    refine wp_of e250 c250_27 (xc_V (pc' := 30) (r := r0) (as := [vI 0]) (st := []) (lm_9_433) rfl rfl (Nat.le_of_ble_eq_true rfl) w1246 g0 sh_42 (by decide) rfl (by decide) (u_241 (e := e) (d := d) w1246 g0 ⟨by decide, by decide⟩ (by omega) (by omega) (by assumption) (by assumption) (by assumption) (by assumption) h1262 h1263) (fun R1264 T1265 H1266 p1267 => ?_))
    obtain ⟨e1268, w1270, f1271, z1272, e1269, b1273, p1274⟩ := p1267
    subst e1268
    subst e1269
    rcases p1274 with ⟨a1275, a1276, a1277, a1278, a1279, a1280, a1281, a1282, a1283⟩ | ⟨a1284, a1285, a1286, a1287, a1288, a1289, a1290⟩
    · exfalso
      omega
    · have f1291 := f1247.tr f1271 rfl
      show wp _ _ 250 30 [(0, .ref r0), (1, vI a1), (2, vI a2)] [vI z1272] _ H1266 _
      have k1292 : wLM H1266 r0 = wLM H r0 := ((wLM_fr w1246 g0 f1271 rfl).trans (wLM_fr hW g0 ((wfr.rf (l := [(42, 0)])).put' e1245 g0 rfl) rfl))
      refine wp_of e250 c250_30 (rw_istore_n (pc' := 31) (z := z1272) (L' := [(3, vI z1272), (0, .ref r0), (1, vI a1), (2, vI a2)]) rfl rfl rfl ?_)
      refine wp_of e250 c250_31 (rw_iload_n (pc' := 32) (z := z1272) rfl rfl ?_)
      refine wp_of e250 c250_32 (rw_if_le (p1 := 43) (p2 := 35) (by decide) rfl ⟨Int.le_trans (by decide) b1273.1, Int.le_trans b1273.2 (by decide)⟩ (fun c1293 => ?_) (fun c1293 => ?_))
      · exfalso
        omega
      · refine wp_of e250 c250_35 (rw_aload_n (pc' := 36) (v := .ref r0) rfl rfl rfl ?_)
        refine wp_of e250 c250_36 (rw_iload_n (pc' := 37) (z := z1272) rfl rfl ?_)
        refine wp_of e250 c250_37 (xc_V (pc' := 40) (r := r0) (as := [vI z1272]) (st := []) (lm_9_54) rfl rfl (Nat.le_of_ble_eq_true rfl) w1270 g0 sh_42 (by decide) rfl (by decide) (s_170 w1270 g0 ⟨Int.le_trans (by decide) b1273.1, Int.le_trans b1273.2 (by decide)⟩) (fun R1294 T1295 H1296 p1297 => ?_))
        obtain ⟨e1298, w1300, f1301, z1302, e1299, b1303⟩ := p1297
        subst e1298
        subst e1299
        have f1304 := f1291.tr f1301 rfl
        show wp _ _ 250 40 [(3, vI z1272), (0, .ref r0), (1, vI a1), (2, vI a2)] [vI z1302] _ H1296 _
        refine wp_of e250 c250_40 (rw_goto (p1 := 53) (by decide) ?_)
        have k1305 : wKI H1296 r0 = wKI H1266 r0 := (wKI_fr w1270 g0 f1301 rfl)
        have h1306 : KNN T H1296 r0 e d := (KNN_fr w1270 g0 f1301 rfl a1290)
        exact wp_ireturn e250 c250_53 rfl ⟨rfl, w1300, f1304, z1302, rfl, ⟨b1303.1, b1303.2⟩, ⟨by omega, h1306⟩⟩
  · refine wp_of e250 c250_14 (rw_aload_n (pc' := 15) (v := .ref r0) rfl rfl rfl ?_)
    refine wp_of e250 c250_15 (rw_iload_n (pc' := 16) (z := a2) rfl rfl ?_)
    refine wp_of e250 c250_16 (xc_V (pc' := 19) (r := r0) (as := [vI a2]) (st := [.ref r0]) (lm_9_373) rfl rfl (Nat.le_of_ble_eq_true rfl) w1246 g0 sh_42 (by decide) rfl (by decide) (s_218 w1246 g0 ⟨i2.1, i2.2⟩) (fun R1307 T1308 H1309 p1310 => ?_))
    obtain ⟨e1311, e1313, z1315, e1312, b1316, p1314⟩ := p1310
    subst e1311
    subst e1312
    subst e1313
    show wp _ _ 250 19 [(0, .ref r0), (1, vI a1), (2, vI a2)] [vI z1315, .ref r0] _ H1244 _
    refine wp_of e250 c250_19 (rw_if_eq (p1 := 26) (p2 := 22) (by decide) rfl ⟨Int.le_trans (by decide) b1316.1, Int.le_trans b1316.2 (by decide)⟩ (fun c1317 => ?_) (fun c1317 => ?_))
    · refine wp_of e250 c250_26 (rw_iconst (pc' := 27) rfl ?_)
      have k1318 : H1244 r0 3 = H r0 3 := (wq_u_j e1245 rfl)
      have k1319 : wKI H1244 r0 = wKI H r0 := (wKI_fr hW g0 ((wfr.rf (l := [(42, 0)])).put' e1245 g0 rfl) rfl)
      have h1320 : RB T H1244 r0 e d := (RB_fr hW g0 ((wfr.rf (l := [(42, 0)])).put' e1245 g0 rfl) rfl hRB_r0)
      have h1321 : KNN T H1244 r0 e d := (KNN_fr hW g0 ((wfr.rf (l := [(42, 0)])).put' e1245 g0 rfl) rfl hKNN_r0)
      refine wp_of e250 c250_27 (xc_V (pc' := 30) (r := r0) (as := [vI 0]) (st := []) (lm_9_433) rfl rfl (Nat.le_of_ble_eq_true rfl) w1246 g0 sh_42 (by decide) rfl (by decide) (u_241 (e := e) (d := d) w1246 g0 ⟨by decide, by decide⟩ (by omega) (by omega) (by assumption) (by assumption) (by assumption) (by assumption) h1320 h1321) (fun R1322 T1323 H1324 p1325 => ?_))
      obtain ⟨e1326, w1328, f1329, z1330, e1327, b1331, p1332⟩ := p1325
      subst e1326
      subst e1327
      rcases p1332 with ⟨a1333, a1334, a1335, a1336, a1337, a1338, a1339, a1340, a1341⟩ | ⟨a1342, a1343, a1344, a1345, a1346, a1347, a1348⟩
      · exfalso
        omega
      · have f1349 := f1247.tr f1329 rfl
        show wp _ _ 250 30 [(0, .ref r0), (1, vI a1), (2, vI a2)] [vI z1330] _ H1324 _
        have k1350 : wLM H1324 r0 = wLM H r0 := ((wLM_fr w1246 g0 f1329 rfl).trans (wLM_fr hW g0 ((wfr.rf (l := [(42, 0)])).put' e1245 g0 rfl) rfl))
        refine wp_of e250 c250_30 (rw_istore_n (pc' := 31) (z := z1330) (L' := [(3, vI z1330), (0, .ref r0), (1, vI a1), (2, vI a2)]) rfl rfl rfl ?_)
        refine wp_of e250 c250_31 (rw_iload_n (pc' := 32) (z := z1330) rfl rfl ?_)
        refine wp_of e250 c250_32 (rw_if_le (p1 := 43) (p2 := 35) (by decide) rfl ⟨Int.le_trans (by decide) b1331.1, Int.le_trans b1331.2 (by decide)⟩ (fun c1351 => ?_) (fun c1351 => ?_))
        · exfalso
          omega
        · refine wp_of e250 c250_35 (rw_aload_n (pc' := 36) (v := .ref r0) rfl rfl rfl ?_)
          refine wp_of e250 c250_36 (rw_iload_n (pc' := 37) (z := z1330) rfl rfl ?_)
          refine wp_of e250 c250_37 (xc_V (pc' := 40) (r := r0) (as := [vI z1330]) (st := []) (lm_9_54) rfl rfl (Nat.le_of_ble_eq_true rfl) w1328 g0 sh_42 (by decide) rfl (by decide) (s_170 w1328 g0 ⟨Int.le_trans (by decide) b1331.1, Int.le_trans b1331.2 (by decide)⟩) (fun R1352 T1353 H1354 p1355 => ?_))
          obtain ⟨e1356, w1358, f1359, z1360, e1357, b1361⟩ := p1355
          subst e1356
          subst e1357
          have f1362 := f1349.tr f1359 rfl
          show wp _ _ 250 40 [(3, vI z1330), (0, .ref r0), (1, vI a1), (2, vI a2)] [vI z1360] _ H1354 _
          refine wp_of e250 c250_40 (rw_goto (p1 := 53) (by decide) ?_)
          have k1363 : wKI H1354 r0 = wKI H1324 r0 := (wKI_fr w1328 g0 f1359 rfl)
          have h1364 : KNN T H1354 r0 e d := (KNN_fr w1328 g0 f1359 rfl a1348)
          exact wp_ireturn e250 c250_53 rfl ⟨rfl, w1358, f1362, z1360, rfl, ⟨b1361.1, b1361.2⟩, ⟨by omega, h1364⟩⟩
    · refine wp_of e250 c250_22 (rw_iconst (pc' := 23) rfl ?_)
      refine wp_of e250 c250_23 (rw_goto (p1 := 27) (by decide) ?_)
      have k1365 : H1244 r0 3 = H r0 3 := (wq_u_j e1245 rfl)
      have k1366 : wKI H1244 r0 = wKI H r0 := (wKI_fr hW g0 ((wfr.rf (l := [(42, 0)])).put' e1245 g0 rfl) rfl)
      have h1367 : RB T H1244 r0 e d := (RB_fr hW g0 ((wfr.rf (l := [(42, 0)])).put' e1245 g0 rfl) rfl hRB_r0)
      have h1368 : KNN T H1244 r0 e d := (KNN_fr hW g0 ((wfr.rf (l := [(42, 0)])).put' e1245 g0 rfl) rfl hKNN_r0)
      refine wp_of e250 c250_27 (xc_V (pc' := 30) (r := r0) (as := [vI 1]) (st := []) (lm_9_433) rfl rfl (Nat.le_of_ble_eq_true rfl) w1246 g0 sh_42 (by decide) rfl (by decide) (u_241 (e := e) (d := d) w1246 g0 ⟨by decide, by decide⟩ (by omega) (by omega) (by assumption) (by assumption) (by assumption) (by assumption) h1367 h1368) (fun R1369 T1370 H1371 p1372 => ?_))
      obtain ⟨e1373, w1375, f1376, z1377, e1374, b1378, p1379⟩ := p1372
      subst e1373
      subst e1374
      rcases p1379 with ⟨a1380, a1381, a1382, a1383, a1384, a1385, a1386, a1387, a1388⟩ | ⟨a1389, a1390, a1391, a1392, a1393, a1394, a1395⟩
      · have f1396 := f1247.tr f1376 rfl
        show wp _ _ 250 30 [(0, .ref r0), (1, vI a1), (2, vI a2)] [vI z1377] _ H1371 _
        have k1397 : wLM H1371 r0 = wLM H r0 := ((wLM_fr w1246 g0 f1376 rfl).trans (wLM_fr hW g0 ((wfr.rf (l := [(42, 0)])).put' e1245 g0 rfl) rfl))
        refine wp_of e250 c250_30 (rw_istore_n (pc' := 31) (z := z1377) (L' := [(3, vI z1377), (0, .ref r0), (1, vI a1), (2, vI a2)]) rfl rfl rfl ?_)
        refine wp_of e250 c250_31 (rw_iload_n (pc' := 32) (z := z1377) rfl rfl ?_)
        refine wp_of e250 c250_32 (rw_if_le (p1 := 43) (p2 := 35) (by decide) rfl ⟨Int.le_trans (by decide) b1378.1, Int.le_trans b1378.2 (by decide)⟩ (fun c1398 => ?_) (fun c1398 => ?_))
        · refine wp_of e250 c250_43 (rw_aload_n (pc' := 44) (v := .ref r0) rfl rfl rfl ?_)
          refine wp_of e250 c250_44 (rw_aload_n (pc' := 45) (v := .ref r0) rfl rfl rfl ?_)
          refine wp_of e250 c250_45 (rw_iload_n (pc' := 46) (z := a1) rfl rfl ?_)
          refine wp_of e250 c250_46 (rw_iload_n (pc' := 47) (z := a2) rfl rfl ?_)
          have k1399 : H1371 r0 3 = H1244 r0 3 := (f1376 r0 3 _ g0 rfl)
          obtain ⟨r1400, q1401, g1402⟩ := (w1375.opt g0 (t' := 54) (n := 33) (j := 3) (p := 0) (q := 0) rfl (by decide) rfl).resolve_left (by omega)
          refine wp_of e250 c250_47 (xc_V (pc' := 50) (r := r0) (as := [vI a1, vI a2]) (st := [.ref r0]) (lm_9_444) rfl rfl (Nat.le_of_ble_eq_true rfl) w1375 g0 sh_42 (by decide) rfl (by decide) (s_251 w1375 g0 ⟨by omega, by omega⟩ ⟨i2.1, i2.2⟩ q1401 g1402 (by omega)) (fun R1403 T1404 H1405 p1406 => ?_))
          obtain ⟨e1407, w1409, f1410, z1411, e1408, b1412⟩ := p1406
          subst e1407
          subst e1408
          have f1413 := f1396.tr f1410 rfl
          show wp _ _ 250 50 [(3, vI z1377), (0, .ref r0), (1, vI a1), (2, vI a2)] [vI z1411, .ref r0] _ H1405 _
          refine wp_of e250 c250_50 (xc_V (pc' := 53) (r := r0) (as := [vI z1411]) (st := []) (lm_9_58) rfl rfl (Nat.le_of_ble_eq_true rfl) w1409 g0 sh_42 (by decide) rfl (by decide) (s_209 w1409 g0 ⟨b1412.1, b1412.2⟩) (fun R1414 T1415 H1416 p1417 => ?_))
          obtain ⟨e1418, w1420, f1421, z1422, e1419, b1423⟩ := p1417
          subst e1418
          subst e1419
          have f1424 := f1413.tr f1421 rfl
          show wp _ _ 250 53 [(3, vI z1377), (0, .ref r0), (1, vI a1), (2, vI a2)] [vI z1422] _ H1416 _
          have k1425 : wKI H1416 r0 = wKI H1371 r0 := ((wKI_fr w1409 g0 f1421 rfl).trans (wKI_fr w1375 g0 f1410 rfl))
          have h1426 : KNN T H1416 r0 e d := (KNN_fr w1409 g0 f1421 rfl (KNN_fr w1375 g0 f1410 rfl a1387))
          exact wp_ireturn e250 c250_53 rfl ⟨rfl, w1420, f1424, z1422, rfl, ⟨b1423.1, b1423.2⟩, ⟨by omega, h1426⟩⟩
        · exfalso
          omega
      · have f1427 := f1247.tr f1376 rfl
        show wp _ _ 250 30 [(0, .ref r0), (1, vI a1), (2, vI a2)] [vI z1377] _ H1371 _
        have k1428 : wLM H1371 r0 = wLM H r0 := ((wLM_fr w1246 g0 f1376 rfl).trans (wLM_fr hW g0 ((wfr.rf (l := [(42, 0)])).put' e1245 g0 rfl) rfl))
        refine wp_of e250 c250_30 (rw_istore_n (pc' := 31) (z := z1377) (L' := [(3, vI z1377), (0, .ref r0), (1, vI a1), (2, vI a2)]) rfl rfl rfl ?_)
        refine wp_of e250 c250_31 (rw_iload_n (pc' := 32) (z := z1377) rfl rfl ?_)
        refine wp_of e250 c250_32 (rw_if_le (p1 := 43) (p2 := 35) (by decide) rfl ⟨Int.le_trans (by decide) b1378.1, Int.le_trans b1378.2 (by decide)⟩ (fun c1429 => ?_) (fun c1429 => ?_))
        · exfalso
          omega
        · refine wp_of e250 c250_35 (rw_aload_n (pc' := 36) (v := .ref r0) rfl rfl rfl ?_)
          refine wp_of e250 c250_36 (rw_iload_n (pc' := 37) (z := z1377) rfl rfl ?_)
          refine wp_of e250 c250_37 (xc_V (pc' := 40) (r := r0) (as := [vI z1377]) (st := []) (lm_9_54) rfl rfl (Nat.le_of_ble_eq_true rfl) w1375 g0 sh_42 (by decide) rfl (by decide) (s_170 w1375 g0 ⟨Int.le_trans (by decide) b1378.1, Int.le_trans b1378.2 (by decide)⟩) (fun R1430 T1431 H1432 p1433 => ?_))
          obtain ⟨e1434, w1436, f1437, z1438, e1435, b1439⟩ := p1433
          subst e1434
          subst e1435
          have f1440 := f1427.tr f1437 rfl
          show wp _ _ 250 40 [(3, vI z1377), (0, .ref r0), (1, vI a1), (2, vI a2)] [vI z1438] _ H1432 _
          refine wp_of e250 c250_40 (rw_goto (p1 := 53) (by decide) ?_)
          have k1441 : wKI H1432 r0 = wKI H1371 r0 := (wKI_fr w1375 g0 f1437 rfl)
          have h1442 : KNN T H1432 r0 e d := (KNN_fr w1375 g0 f1437 rfl a1395)
          exact wp_ireturn e250 c250_53 rfl ⟨rfl, w1436, f1440, z1438, rfl, ⟨b1439.1, b1439.2⟩, ⟨by omega, h1442⟩⟩
/-! StrikeAwakeModel.sure(II)I  -/
abbrev uq_252 (r0 : Nat) (a1 : Int) (a2 : Int) (e : xD) (d : xD) (T : wq_T) (H : wq_H) : Option Value → wq_T → wq_H → Prop := fun r T' H' => T = T' ∧ WT T H' ∧ wfr [(42, 0), (42, 1), (42, 2), (42, 28), (42, 29), (51, 999), (52, 999)] T H H' ∧ ∃ z : Int, some (vI z) = r ∧ ((-2147483648) ≤ z ∧ z ≤ 2147483647) ∧ (((wKI H' r0 = 1) ∧ KNN T H' r0 e d))
set_option maxHeartbeats 4000000 in
theorem u_252 {kt : Nat → Option mc_E} {T : wq_T} {H : wq_H} {r0 : Nat} {a1 : Int} {a2 : Int} {e : xD} {d : xD} (hW : WT T H) (g0 : T.2.2.2 r0 = some 42) (i1 : (-2147483648) ≤ a1 ∧ a1 ≤ 2147483647) (i2 : (-2147483648) ≤ a2 ∧ a2 ≤ 2147483647) (p0 : wKI H r0 = 1) (p1 : XW d) (p2 : ∀ h : Nat, d 0 0 ≤ (h : Int) → h < 24 → e 13 h = 0) (p3 : XN d) (p4 : ∀ h : Nat, h < 24 → 0 ≤ e 13 h ∧ e 13 h ≤ 100) (hRB_r0 : RB T H r0 e d) (hKNN_r0 : KNN T H r0 e d) : wpc kt 9 252 [.ref r0, vI a1, vI a2] T H (uq_252 r0 a1 a2 e d T H) := by
  refine wp_enter e252 (Nat.le_of_ble_eq_true rfl) rfl ?_
  have f0 : wfr [(42, 0), (42, 1), (42, 2), (42, 28), (42, 29), (51, 999), (52, 999)] T H H := wfr.rf
  show wp _ _ 252 0 [(0, .ref r0), (1, vI a1), (2, vI a2)] [] _ H _
  have _b := RB_b hW hRB_r0
  have _nu := RB_n3 hRB_r0
  have _lm := RB_lm hRB_r0
  refine wp_of e252 c252_0 (rw_aload_n (pc' := 1) (v := .ref r0) rfl rfl rfl ?_)
  refine wp_of e252 c252_1 (rw_iconst (pc' := 2) rfl ?_)
  refine wp_of e252 c252_2 (xp_I (pc' := 5) lf_9_48 hW g0 sh_42 (by decide) (by decide) ty_42_0 rfl rfl (by decide) (by decide) ⟨by decide, by decide⟩ rfl (fun H1328 e1329 w1330 => ?_))
  have f1331 := f0.put' e1329 g0 rfl
  have k1332 : H1328 r0 0 = 0 := wq_u_s e1329
  refine wp_of e252 c252_5 (rw_aload_n (pc' := 6) (v := .ref r0) rfl rfl rfl ?_)
  refine wp_of e252 c252_6 (rw_aload_n (pc' := 7) (v := .ref r0) rfl rfl rfl ?_)
  refine wp_of e252 c252_7 (rw_iload_n (pc' := 8) (z := a1) rfl rfl ?_)
  refine wp_of e252 c252_8 (xc_V (pc' := 11) (r := r0) (as := [vI a1]) (st := [.ref r0]) (lm_9_364) rfl rfl (Nat.le_of_ble_eq_true rfl) w1330 g0 sh_42 (by decide) rfl (by decide) (s_213 w1330 g0 ⟨i1.1, i1.2⟩) (fun R1333 T1334 H1335 p1336 => ?_))
  obtain ⟨e1337, e1339, z1341, e1338, b1342, p1340⟩ := p1336
  subst e1337
  subst e1338
  subst e1339
  show wp _ _ 252 11 [(0, .ref r0), (1, vI a1), (2, vI a2)] [vI z1341, .ref r0] _ H1328 _
  refine wp_of e252 c252_11 (rw_if_eq (p1 := 26) (p2 := 14) (by decide) rfl ⟨Int.le_trans (by decide) b1342.1, Int.le_trans b1342.2 (by decide)⟩ (fun c1343 => ?_) (fun c1343 => ?_))
  · refine wp_of e252 c252_26 (rw_iconst (pc' := 27) rfl ?_)
    have k1344 : H1328 r0 3 = H r0 3 := (wq_u_j e1329 rfl)
    have k1345 : wKI H1328 r0 = wKI H r0 := (wKI_fr hW g0 ((wfr.rf (l := [(42, 0)])).put' e1329 g0 rfl) rfl)
    have h1346 : RB T H1328 r0 e d := (RB_fr hW g0 ((wfr.rf (l := [(42, 0)])).put' e1329 g0 rfl) rfl hRB_r0)
    have h1347 : KNN T H1328 r0 e d := (KNN_fr hW g0 ((wfr.rf (l := [(42, 0)])).put' e1329 g0 rfl) rfl hKNN_r0)
    refine wp_of e252 c252_27 (xc_V (pc' := 30) (r := r0) (as := [vI 0]) (st := []) (lm_9_447) rfl rfl (Nat.le_of_ble_eq_true rfl) w1330 g0 sh_42 (by decide) rfl (by decide) (u_253 (e := e) (d := d) w1330 g0 ⟨by decide, by decide⟩ (by omega) (by omega) (by assumption) (by assumption) (by assumption) (by assumption) h1346 h1347) (fun R1348 T1349 H1350 p1351 => ?_))
    obtain ⟨e1352, w1354, f1355, z1356, e1353, b1357, p1358⟩ := p1351
    subst e1352
    subst e1353
    rcases p1358 with ⟨a1359, a1360, a1361, a1362, a1363, a1364, a1365, a1366, a1367, a1368⟩ | ⟨a1369, a1370, a1371, a1372, a1373, a1374, a1375⟩
    · exfalso
      omega
    · have f1376 := f1331.tr f1355 rfl
      show wp _ _ 252 30 [(0, .ref r0), (1, vI a1), (2, vI a2)] [vI z1356] _ H1350 _
      have k1377 : wLM H1350 r0 = wLM H r0 := ((wLM_fr w1330 g0 f1355 rfl).trans (wLM_fr hW g0 ((wfr.rf (l := [(42, 0)])).put' e1329 g0 rfl) rfl))
      refine wp_of e252 c252_30 (rw_istore_n (pc' := 31) (z := z1356) (L' := [(3, vI z1356), (0, .ref r0), (1, vI a1), (2, vI a2)]) rfl rfl rfl ?_)
      refine wp_of e252 c252_31 (rw_iload_n (pc' := 32) (z := z1356) rfl rfl ?_)
      refine wp_of e252 c252_32 (rw_if_le (p1 := 41) (p2 := 35) (by decide) rfl ⟨Int.le_trans (by decide) b1357.1, Int.le_trans b1357.2 (by decide)⟩ (fun c1378 => ?_) (fun c1378 => ?_))
      · exfalso
        omega
      · refine wp_of e252 c252_35 (rw_aload_n (pc' := 36) (v := .ref r0) rfl rfl rfl ?_)
        refine wp_of e252 c252_36 (rw_iload_n (pc' := 37) (z := z1356) rfl rfl ?_)
        refine wp_of e252 c252_37 (xc_V (pc' := 40) (r := r0) (as := [vI z1356]) (st := []) (lm_9_54) rfl rfl (Nat.le_of_ble_eq_true rfl) w1354 g0 sh_42 (by decide) rfl (by decide) (s_170 w1354 g0 ⟨Int.le_trans (by decide) b1357.1, Int.le_trans b1357.2 (by decide)⟩) (fun R1379 T1380 H1381 p1382 => ?_))
        obtain ⟨e1383, w1385, f1386, z1387, e1384, b1388⟩ := p1382
        subst e1383
        subst e1384
        have f1389 := f1376.tr f1386 rfl
        show wp _ _ 252 40 [(3, vI z1356), (0, .ref r0), (1, vI a1), (2, vI a2)] [vI z1387] _ H1381 _
        have k1390 : wKI H1381 r0 = wKI H1350 r0 := (wKI_fr w1354 g0 f1386 rfl)
        have h1391 : KNN T H1381 r0 e d := (KNN_fr w1354 g0 f1386 rfl a1375)
        exact wp_ireturn e252 c252_40 rfl ⟨rfl, w1385, f1389, z1387, rfl, ⟨b1388.1, b1388.2⟩, ⟨by omega, h1391⟩⟩
  · refine wp_of e252 c252_14 (rw_aload_n (pc' := 15) (v := .ref r0) rfl rfl rfl ?_)
    refine wp_of e252 c252_15 (rw_iload_n (pc' := 16) (z := a2) rfl rfl ?_)
    refine wp_of e252 c252_16 (xc_V (pc' := 19) (r := r0) (as := [vI a2]) (st := [.ref r0]) (lm_9_373) rfl rfl (Nat.le_of_ble_eq_true rfl) w1330 g0 sh_42 (by decide) rfl (by decide) (s_218 w1330 g0 ⟨i2.1, i2.2⟩) (fun R1392 T1393 H1394 p1395 => ?_))
    obtain ⟨e1396, e1398, z1400, e1397, b1401, p1399⟩ := p1395
    subst e1396
    subst e1397
    subst e1398
    show wp _ _ 252 19 [(0, .ref r0), (1, vI a1), (2, vI a2)] [vI z1400, .ref r0] _ H1328 _
    refine wp_of e252 c252_19 (rw_if_eq (p1 := 26) (p2 := 22) (by decide) rfl ⟨Int.le_trans (by decide) b1401.1, Int.le_trans b1401.2 (by decide)⟩ (fun c1402 => ?_) (fun c1402 => ?_))
    · refine wp_of e252 c252_26 (rw_iconst (pc' := 27) rfl ?_)
      have k1403 : H1328 r0 3 = H r0 3 := (wq_u_j e1329 rfl)
      have k1404 : wKI H1328 r0 = wKI H r0 := (wKI_fr hW g0 ((wfr.rf (l := [(42, 0)])).put' e1329 g0 rfl) rfl)
      have h1405 : RB T H1328 r0 e d := (RB_fr hW g0 ((wfr.rf (l := [(42, 0)])).put' e1329 g0 rfl) rfl hRB_r0)
      have h1406 : KNN T H1328 r0 e d := (KNN_fr hW g0 ((wfr.rf (l := [(42, 0)])).put' e1329 g0 rfl) rfl hKNN_r0)
      refine wp_of e252 c252_27 (xc_V (pc' := 30) (r := r0) (as := [vI 0]) (st := []) (lm_9_447) rfl rfl (Nat.le_of_ble_eq_true rfl) w1330 g0 sh_42 (by decide) rfl (by decide) (u_253 (e := e) (d := d) w1330 g0 ⟨by decide, by decide⟩ (by omega) (by omega) (by assumption) (by assumption) (by assumption) (by assumption) h1405 h1406) (fun R1407 T1408 H1409 p1410 => ?_))
      obtain ⟨e1411, w1413, f1414, z1415, e1412, b1416, p1417⟩ := p1410
      subst e1411
      subst e1412
      rcases p1417 with ⟨a1418, a1419, a1420, a1421, a1422, a1423, a1424, a1425, a1426, a1427⟩ | ⟨a1428, a1429, a1430, a1431, a1432, a1433, a1434⟩
      · exfalso
        omega
      · have f1435 := f1331.tr f1414 rfl
        show wp _ _ 252 30 [(0, .ref r0), (1, vI a1), (2, vI a2)] [vI z1415] _ H1409 _
        have k1436 : wLM H1409 r0 = wLM H r0 := ((wLM_fr w1330 g0 f1414 rfl).trans (wLM_fr hW g0 ((wfr.rf (l := [(42, 0)])).put' e1329 g0 rfl) rfl))
        refine wp_of e252 c252_30 (rw_istore_n (pc' := 31) (z := z1415) (L' := [(3, vI z1415), (0, .ref r0), (1, vI a1), (2, vI a2)]) rfl rfl rfl ?_)
        refine wp_of e252 c252_31 (rw_iload_n (pc' := 32) (z := z1415) rfl rfl ?_)
        refine wp_of e252 c252_32 (rw_if_le (p1 := 41) (p2 := 35) (by decide) rfl ⟨Int.le_trans (by decide) b1416.1, Int.le_trans b1416.2 (by decide)⟩ (fun c1437 => ?_) (fun c1437 => ?_))
        · exfalso
          omega
        · refine wp_of e252 c252_35 (rw_aload_n (pc' := 36) (v := .ref r0) rfl rfl rfl ?_)
          refine wp_of e252 c252_36 (rw_iload_n (pc' := 37) (z := z1415) rfl rfl ?_)
          refine wp_of e252 c252_37 (xc_V (pc' := 40) (r := r0) (as := [vI z1415]) (st := []) (lm_9_54) rfl rfl (Nat.le_of_ble_eq_true rfl) w1413 g0 sh_42 (by decide) rfl (by decide) (s_170 w1413 g0 ⟨Int.le_trans (by decide) b1416.1, Int.le_trans b1416.2 (by decide)⟩) (fun R1438 T1439 H1440 p1441 => ?_))
          obtain ⟨e1442, w1444, f1445, z1446, e1443, b1447⟩ := p1441
          subst e1442
          subst e1443
          have f1448 := f1435.tr f1445 rfl
          show wp _ _ 252 40 [(3, vI z1415), (0, .ref r0), (1, vI a1), (2, vI a2)] [vI z1446] _ H1440 _
          have k1449 : wKI H1440 r0 = wKI H1409 r0 := (wKI_fr w1413 g0 f1445 rfl)
          have h1450 : KNN T H1440 r0 e d := (KNN_fr w1413 g0 f1445 rfl a1434)
          exact wp_ireturn e252 c252_40 rfl ⟨rfl, w1444, f1448, z1446, rfl, ⟨b1447.1, b1447.2⟩, ⟨by omega, h1450⟩⟩
    · refine wp_of e252 c252_22 (rw_iconst (pc' := 23) rfl ?_)
      refine wp_of e252 c252_23 (rw_goto (p1 := 27) (by decide) ?_)
      have k1451 : H1328 r0 3 = H r0 3 := (wq_u_j e1329 rfl)
      have k1452 : wKI H1328 r0 = wKI H r0 := (wKI_fr hW g0 ((wfr.rf (l := [(42, 0)])).put' e1329 g0 rfl) rfl)
      have h1453 : RB T H1328 r0 e d := (RB_fr hW g0 ((wfr.rf (l := [(42, 0)])).put' e1329 g0 rfl) rfl hRB_r0)
      have h1454 : KNN T H1328 r0 e d := (KNN_fr hW g0 ((wfr.rf (l := [(42, 0)])).put' e1329 g0 rfl) rfl hKNN_r0)
      refine wp_of e252 c252_27 (xc_V (pc' := 30) (r := r0) (as := [vI 1]) (st := []) (lm_9_447) rfl rfl (Nat.le_of_ble_eq_true rfl) w1330 g0 sh_42 (by decide) rfl (by decide) (u_253 (e := e) (d := d) w1330 g0 ⟨by decide, by decide⟩ (by omega) (by omega) (by assumption) (by assumption) (by assumption) (by assumption) h1453 h1454) (fun R1455 T1456 H1457 p1458 => ?_))
      obtain ⟨e1459, w1461, f1462, z1463, e1460, b1464, p1465⟩ := p1458
      subst e1459
      subst e1460
      rcases p1465 with ⟨a1466, a1467, a1468, a1469, a1470, a1471, a1472, a1473, a1474, a1475⟩ | ⟨a1476, a1477, a1478, a1479, a1480, a1481, a1482⟩
      · have f1483 := f1331.tr f1462 rfl
        show wp _ _ 252 30 [(0, .ref r0), (1, vI a1), (2, vI a2)] [vI z1463] _ H1457 _
        have k1484 : wLM H1457 r0 = wLM H r0 := ((wLM_fr w1330 g0 f1462 rfl).trans (wLM_fr hW g0 ((wfr.rf (l := [(42, 0)])).put' e1329 g0 rfl) rfl))
        refine wp_of e252 c252_30 (rw_istore_n (pc' := 31) (z := z1463) (L' := [(3, vI z1463), (0, .ref r0), (1, vI a1), (2, vI a2)]) rfl rfl rfl ?_)
        refine wp_of e252 c252_31 (rw_iload_n (pc' := 32) (z := z1463) rfl rfl ?_)
        refine wp_of e252 c252_32 (rw_if_le (p1 := 41) (p2 := 35) (by decide) rfl ⟨Int.le_trans (by decide) b1464.1, Int.le_trans b1464.2 (by decide)⟩ (fun c1485 => ?_) (fun c1485 => ?_))
        · refine wp_of e252 c252_41 (rw_aload_n (pc' := 42) (v := .ref r0) rfl rfl rfl ?_)
          refine wp_of e252 c252_42 (rw_iload_n (pc' := 43) (z := a1) rfl rfl ?_)
          refine wp_of e252 c252_43 (rw_iload_n (pc' := 44) (z := a2) rfl rfl ?_)
          have k1486 : H1457 r0 3 = H1328 r0 3 := (f1462 r0 3 _ g0 rfl)
          obtain ⟨r1487, q1488, g1489⟩ := (w1461.opt g0 (t' := 54) (n := 33) (j := 3) (p := 0) (q := 0) rfl (by decide) rfl).resolve_left (by omega)
          refine wp_of e252 c252_44 (xc_V (pc' := 47) (r := r0) (as := [vI a1, vI a2]) (st := []) (lm_9_444) rfl rfl (Nat.le_of_ble_eq_true rfl) w1461 g0 sh_42 (by decide) rfl (by decide) (s_251 w1461 g0 ⟨by omega, by omega⟩ ⟨i2.1, i2.2⟩ q1488 g1489 (by omega)) (fun R1490 T1491 H1492 p1493 => ?_))
          obtain ⟨e1494, w1496, f1497, z1498, e1495, b1499⟩ := p1493
          subst e1494
          subst e1495
          have f1500 := f1483.tr f1497 rfl
          show wp _ _ 252 47 [(3, vI z1463), (0, .ref r0), (1, vI a1), (2, vI a2)] [vI z1498] _ H1492 _
          refine wp_of e252 c252_47 (rw_istore (pc' := 49) (z := z1498) (L' := [(4, vI z1498), (3, vI z1463), (0, .ref r0), (1, vI a1), (2, vI a2)]) rfl rfl rfl ?_)
          refine wp_of e252 c252_49 (rw_aload_n (pc' := 50) (v := .ref r0) rfl rfl rfl ?_)
          refine wp_of e252 c252_50 (rw_iload (pc' := 52) (z := z1498) rfl rfl ?_)
          refine wp_of e252 c252_52 (rw_aload_n (pc' := 53) (v := .ref r0) rfl rfl rfl ?_)
          have k1501 : H1492 r0 29 = H1457 r0 29 := (f1497 r0 29 _ g0 rfl)
          refine wp_of e252 c252_53 (xg_I (pc' := 56) lf_9_422 w1496 g0 sh_42 (by decide) (by decide) ty_42_29 rfl rfl (fun b1502 b1503 => ?_))
          refine wp_of e252 c252_56 (rw_icmp_ne (p1 := 63) (p2 := 59) (by decide) rfl ⟨b1499.1, b1499.2⟩ ⟨Int.le_trans (by decide) b1502, Int.le_trans b1503 (by decide)⟩ (fun c1504 => ?_) (fun c1504 => ?_))
          · refine wp_of e252 c252_63 (rw_iload (pc' := 65) (z := z1498) rfl rfl ?_)
            refine wp_of e252 c252_65 (rw_if_ne (p1 := 72) (p2 := 68) (by decide) rfl ⟨b1499.1, b1499.2⟩ (fun c1505 => ?_) (fun c1505 => ?_))
            · refine wp_of e252 c252_72 (rw_iconst (pc' := 73) rfl ?_)
              refine wp_of e252 c252_73 (xc_V (pc' := 76) (r := r0) (as := [vI 1]) (st := []) (lm_9_58) rfl rfl (Nat.le_of_ble_eq_true rfl) w1496 g0 sh_42 (by decide) rfl (by decide) (s_209 w1496 g0 ⟨by decide, by decide⟩) (fun R1506 T1507 H1508 p1509 => ?_))
              obtain ⟨e1510, w1512, f1513, z1514, e1511, b1515⟩ := p1509
              subst e1510
              subst e1511
              have f1516 := f1500.tr f1513 rfl
              show wp _ _ 252 76 [(4, vI z1498), (3, vI z1463), (0, .ref r0), (1, vI a1), (2, vI a2)] [vI z1514] _ H1508 _
              have k1517 : wKI H1508 r0 = wKI H1457 r0 := ((wKI_fr w1496 g0 f1513 rfl).trans (wKI_fr w1461 g0 f1497 rfl))
              have h1518 : KNN T H1508 r0 e d := (KNN_fr w1496 g0 f1513 rfl (KNN_fr w1461 g0 f1497 rfl a1474))
              exact wp_ireturn e252 c252_76 rfl ⟨rfl, w1512, f1516, z1514, rfl, ⟨b1515.1, b1515.2⟩, ⟨by omega, h1518⟩⟩
            · refine wp_of e252 c252_68 (rw_iconst (pc' := 69) rfl ?_)
              refine wp_of e252 c252_69 (rw_goto (p1 := 73) (by decide) ?_)
              refine wp_of e252 c252_73 (xc_V (pc' := 76) (r := r0) (as := [vI 0]) (st := []) (lm_9_58) rfl rfl (Nat.le_of_ble_eq_true rfl) w1496 g0 sh_42 (by decide) rfl (by decide) (s_209 w1496 g0 ⟨by decide, by decide⟩) (fun R1519 T1520 H1521 p1522 => ?_))
              obtain ⟨e1523, w1525, f1526, z1527, e1524, b1528⟩ := p1522
              subst e1523
              subst e1524
              have f1529 := f1500.tr f1526 rfl
              show wp _ _ 252 76 [(4, vI z1498), (3, vI z1463), (0, .ref r0), (1, vI a1), (2, vI a2)] [vI z1527] _ H1521 _
              have k1530 : wKI H1521 r0 = wKI H1457 r0 := ((wKI_fr w1496 g0 f1526 rfl).trans (wKI_fr w1461 g0 f1497 rfl))
              have h1531 : KNN T H1521 r0 e d := (KNN_fr w1496 g0 f1526 rfl (KNN_fr w1461 g0 f1497 rfl a1474))
              exact wp_ireturn e252 c252_76 rfl ⟨rfl, w1525, f1529, z1527, rfl, ⟨b1528.1, b1528.2⟩, ⟨by omega, h1531⟩⟩
          · refine wp_of e252 c252_59 (rw_iconst (pc' := 60) rfl ?_)
            refine wp_of e252 c252_60 (rw_goto (p1 := 73) (by decide) ?_)
            refine wp_of e252 c252_73 (xc_V (pc' := 76) (r := r0) (as := [vI 2]) (st := []) (lm_9_58) rfl rfl (Nat.le_of_ble_eq_true rfl) w1496 g0 sh_42 (by decide) rfl (by decide) (s_209 w1496 g0 ⟨by decide, by decide⟩) (fun R1532 T1533 H1534 p1535 => ?_))
            obtain ⟨e1536, w1538, f1539, z1540, e1537, b1541⟩ := p1535
            subst e1536
            subst e1537
            have f1542 := f1500.tr f1539 rfl
            show wp _ _ 252 76 [(4, vI z1498), (3, vI z1463), (0, .ref r0), (1, vI a1), (2, vI a2)] [vI z1540] _ H1534 _
            have k1543 : wKI H1534 r0 = wKI H1457 r0 := ((wKI_fr w1496 g0 f1539 rfl).trans (wKI_fr w1461 g0 f1497 rfl))
            have h1544 : KNN T H1534 r0 e d := (KNN_fr w1496 g0 f1539 rfl (KNN_fr w1461 g0 f1497 rfl a1474))
            exact wp_ireturn e252 c252_76 rfl ⟨rfl, w1538, f1542, z1540, rfl, ⟨b1541.1, b1541.2⟩, ⟨by omega, h1544⟩⟩
        · exfalso
          omega
      · have f1545 := f1331.tr f1462 rfl
        show wp _ _ 252 30 [(0, .ref r0), (1, vI a1), (2, vI a2)] [vI z1463] _ H1457 _
        have k1546 : wLM H1457 r0 = wLM H r0 := ((wLM_fr w1330 g0 f1462 rfl).trans (wLM_fr hW g0 ((wfr.rf (l := [(42, 0)])).put' e1329 g0 rfl) rfl))
        refine wp_of e252 c252_30 (rw_istore_n (pc' := 31) (z := z1463) (L' := [(3, vI z1463), (0, .ref r0), (1, vI a1), (2, vI a2)]) rfl rfl rfl ?_)
        refine wp_of e252 c252_31 (rw_iload_n (pc' := 32) (z := z1463) rfl rfl ?_)
        refine wp_of e252 c252_32 (rw_if_le (p1 := 41) (p2 := 35) (by decide) rfl ⟨Int.le_trans (by decide) b1464.1, Int.le_trans b1464.2 (by decide)⟩ (fun c1547 => ?_) (fun c1547 => ?_))
        · exfalso
          omega
        · refine wp_of e252 c252_35 (rw_aload_n (pc' := 36) (v := .ref r0) rfl rfl rfl ?_)
          refine wp_of e252 c252_36 (rw_iload_n (pc' := 37) (z := z1463) rfl rfl ?_)
          refine wp_of e252 c252_37 (xc_V (pc' := 40) (r := r0) (as := [vI z1463]) (st := []) (lm_9_54) rfl rfl (Nat.le_of_ble_eq_true rfl) w1461 g0 sh_42 (by decide) rfl (by decide) (s_170 w1461 g0 ⟨Int.le_trans (by decide) b1464.1, Int.le_trans b1464.2 (by decide)⟩) (fun R1548 T1549 H1550 p1551 => ?_))
          obtain ⟨e1552, w1554, f1555, z1556, e1553, b1557⟩ := p1551
          subst e1552
          subst e1553
          have f1558 := f1545.tr f1555 rfl
          show wp _ _ 252 40 [(3, vI z1463), (0, .ref r0), (1, vI a1), (2, vI a2)] [vI z1556] _ H1550 _
          have k1559 : wKI H1550 r0 = wKI H1457 r0 := (wKI_fr w1461 g0 f1555 rfl)
          have h1560 : KNN T H1550 r0 e d := (KNN_fr w1461 g0 f1555 rfl a1482)
          exact wp_ireturn e252 c252_40 rfl ⟨rfl, w1554, f1558, z1556, rfl, ⟨b1557.1, b1557.2⟩, ⟨by omega, h1560⟩⟩
