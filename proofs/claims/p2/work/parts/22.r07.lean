/-! methods of the reference (own work, written by wip/gen2/sx.py) -/
/-! StrikeAwakeModel.having(II)I -/
theorem e249 : wq_en 249 = some (9, 6, false, some FieldType.int) := rfl
theorem c249_0 : mc_cd 249 0 = some (.aload_n 0, 1) := by decide +kernel
theorem c249_1 : mc_cd 249 1 = some (.iconst 0, 1) := by decide +kernel
theorem c249_2 : mc_cd 249 2 = some (.putfield 48, 3) := by decide +kernel
theorem c249_5 : mc_cd 249 5 = some (.aload_n 0, 1) := by decide +kernel
theorem c249_6 : mc_cd 249 6 = some (.aload_n 0, 1) := by decide +kernel
theorem c249_7 : mc_cd 249 7 = some (.iload_n 1, 1) := by decide +kernel
theorem c249_8 : mc_cd 249 8 = some (.iload_n 2, 1) := by decide +kernel
theorem c249_9 : mc_cd 249 9 = some (.invokevirtual 367, 3) := by decide +kernel
theorem c249_12 : mc_cd 249 12 = some (.invokevirtual 433, 3) := by decide +kernel
theorem c249_15 : mc_cd 249 15 = some (.istore_n 3, 1) := by decide +kernel
theorem c249_16 : mc_cd 249 16 = some (.iload_n 3, 1) := by decide +kernel
theorem c249_17 : mc_cd 249 17 = some (.ifCond .le 9, 3) := by decide +kernel
theorem c249_20 : mc_cd 249 20 = some (.aload_n 0, 1) := by decide +kernel
theorem c249_21 : mc_cd 249 21 = some (.iload_n 3, 1) := by decide +kernel
theorem c249_22 : mc_cd 249 22 = some (.invokevirtual 54, 3) := by decide +kernel
theorem c249_25 : mc_cd 249 25 = some (.ireturn, 1) := by decide +kernel
theorem c249_26 : mc_cd 249 26 = some (.iconst 0, 1) := by decide +kernel
theorem c249_27 : mc_cd 249 27 = some (.istore 4, 2) := by decide +kernel
theorem c249_29 : mc_cd 249 29 = some (.iconst 0, 1) := by decide +kernel
theorem c249_30 : mc_cd 249 30 = some (.istore 5, 2) := by decide +kernel
theorem c249_32 : mc_cd 249 32 = some (.iload 5, 2) := by decide +kernel
theorem c249_34 : mc_cd 249 34 = some (.aload_n 0, 1) := by decide +kernel
theorem c249_35 : mc_cd 249 35 = some (.getfield 422, 3) := by decide +kernel
theorem c249_38 : mc_cd 249 38 = some (.if_icmp .ge 40, 3) := by decide +kernel
theorem c249_41 : mc_cd 249 41 = some (.aload_n 0, 1) := by decide +kernel
theorem c249_42 : mc_cd 249 42 = some (.aload_n 0, 1) := by decide +kernel
theorem c249_43 : mc_cd 249 43 = some (.getfield 42, 3) := by decide +kernel
theorem c249_46 : mc_cd 249 46 = some (.iload 5, 2) := by decide +kernel
theorem c249_48 : mc_cd 249 48 = some (.iaload, 1) := by decide +kernel
theorem c249_49 : mc_cd 249 49 = some (.invokevirtual 425, 3) := by decide +kernel
theorem c249_52 : mc_cd 249 52 = some (.iload 4, 2) := by decide +kernel
theorem c249_54 : mc_cd 249 54 = some (.aload_n 0, 1) := by decide +kernel
theorem c249_55 : mc_cd 249 55 = some (.getfield 39, 3) := by decide +kernel
theorem c249_58 : mc_cd 249 58 = some (.iload_n 1, 1) := by decide +kernel
theorem c249_59 : mc_cd 249 59 = some (.iaload, 1) := by decide +kernel
theorem c249_60 : mc_cd 249 60 = some (.iload_n 2, 1) := by decide +kernel
theorem c249_61 : mc_cd 249 61 = some (.if_icmp .ne 7, 3) := by decide +kernel
theorem c249_64 : mc_cd 249 64 = some (.iconst 1, 1) := by decide +kernel
theorem c249_65 : mc_cd 249 65 = some (.goto 4, 3) := by decide +kernel
theorem c249_68 : mc_cd 249 68 = some (.iconst 0, 1) := by decide +kernel
theorem c249_69 : mc_cd 249 69 = some (.iadd, 1) := by decide +kernel
theorem c249_70 : mc_cd 249 70 = some (.istore 4, 2) := by decide +kernel
theorem c249_72 : mc_cd 249 72 = some (.iinc 5 1, 3) := by decide +kernel
theorem c249_75 : mc_cd 249 75 = some (.goto (-43), 3) := by decide +kernel
theorem c249_78 : mc_cd 249 78 = some (.aload_n 0, 1) := by decide +kernel
theorem c249_79 : mc_cd 249 79 = some (.iload 4, 2) := by decide +kernel
theorem c249_81 : mc_cd 249 81 = some (.invokevirtual 58, 3) := by decide +kernel
theorem c249_84 : mc_cd 249 84 = some (.ireturn, 1) := by decide +kernel
abbrev q_249 (r0 : Nat) (a1 : Int) (a2 : Int) (T : wq_T) (H : wq_H) : Option Value → wq_T → wq_H → Prop := fun r T' H' => T = T' ∧ WT T H' ∧ wfr [(42, 0), (42, 1), (42, 2), (42, 28), (42, 29), (51, 999), (52, 999)] T H H' ∧ ∃ z : Int, some (vI z) = r ∧ ((-2147483648) ≤ z ∧ z ≤ 2147483647) ∧ (wKI H' r0 = 1)
set_option maxHeartbeats 4000000 in
theorem s_249 {kt : Nat → Option mc_E} {T : wq_T} {H : wq_H} {r0 : Nat} {a1 : Int} {a2 : Int} (hW : WT T H) (g0 : T.2.2.2 r0 = some 42) (i1 : (-2147483648) ≤ a1 ∧ a1 ≤ 2147483647) (i2 : (-2147483648) ≤ a2 ∧ a2 ≤ 2147483647) (p0 : wKI H r0 = 1) : wpc kt 8 249 [.ref r0, vI a1, vI a2] T H (q_249 r0 a1 a2 T H) := by
  refine wp_enter e249 (Nat.le_of_ble_eq_true rfl) rfl ?_
  have f0 : wfr [(42, 0), (42, 1), (42, 2), (42, 28), (42, 29), (51, 999), (52, 999)] T H H := wfr.rf
  show wp _ _ 249 0 [(0, .ref r0), (1, vI a1), (2, vI a2)] [] _ H _
  refine wp_of e249 c249_0 (rw_aload_n (pc' := 1) (v := .ref r0) rfl rfl rfl ?_)
  refine wp_of e249 c249_1 (rw_iconst (pc' := 2) rfl ?_)
  refine wp_of e249 c249_2 (xp_I (pc' := 5) lf_9_48 hW g0 sh_42 (by decide) (by decide) ty_42_0 rfl rfl (by omega) (by omega) ⟨by omega, by omega⟩ rfl (fun H134915 e134916 w134917 => ?_))
  have f134918 := f0.put' e134916 g0 rfl
  have k134919 : H134915 r0 0 = 0 := wq_u_s e134916
  refine wp_of e249 c249_5 (rw_aload_n (pc' := 6) (v := .ref r0) rfl rfl rfl ?_)
  refine wp_of e249 c249_6 (rw_aload_n (pc' := 7) (v := .ref r0) rfl rfl rfl ?_)
  refine wp_of e249 c249_7 (rw_iload_n (pc' := 8) (z := a1) rfl rfl ?_)
  refine wp_of e249 c249_8 (rw_iload_n (pc' := 9) (z := a2) rfl rfl ?_)
  refine wp_of e249 c249_9 (xc_V (pc' := 12) (r := r0) (as := [vI a1, vI a2]) (st := [.ref r0]) (lm_9_367) rfl rfl (Nat.le_of_ble_eq_true rfl) w134917 g0 sh_42 (by decide) rfl (by decide) (s_215 w134917 g0 ⟨by omega, by omega⟩ ⟨by omega, by omega⟩) (fun R134920 T134921 H134922 p134923 => ?_))
  obtain ⟨e134924, e134926, z134928, e134925, b134929, p134927⟩ := p134923
  subst e134924
  subst e134925
  subst e134926
  show wp _ _ 249 12 [(0, .ref r0), (1, vI a1), (2, vI a2)] [vI z134928, .ref r0] _ H134915 _
  have k134930 : wKI H134915 r0 = wKI H r0 := (wKI_fr hW g0 ((wfr.rf (l := [(42, 0)])).put' e134916 g0 rfl) rfl)
  refine wp_of e249 c249_12 (xc_V (pc' := 15) (r := r0) (as := [vI z134928]) (st := []) (lm_9_433) rfl rfl (Nat.le_of_ble_eq_true rfl) w134917 g0 sh_42 (by decide) rfl (by decide) (s_241 w134917 g0 ⟨by omega, by omega⟩ (by omega) (by omega)) (fun R134931 T134932 H134933 p134934 => ?_))
  obtain ⟨e134935, w134937, f134938, z134943, e134936, b134944, p134939, p134940, p134941, p134942⟩ := p134934
  subst e134935
  subst e134936
  have f134945 := f134918.tr f134938 rfl
  show wp _ _ 249 15 [(0, .ref r0), (1, vI a1), (2, vI a2)] [vI z134943] _ H134933 _
  refine wp_of e249 c249_15 (rw_istore_n (pc' := 16) (z := z134943) (L' := [(3, vI z134943), (0, .ref r0), (1, vI a1), (2, vI a2)]) rfl rfl rfl ?_)
  refine wp_of e249 c249_16 (rw_iload_n (pc' := 17) (z := z134943) rfl rfl ?_)
  refine wp_of e249 c249_17 (rw_if_le (p1 := 26) (p2 := 20) (by decide) rfl ⟨by omega, by omega⟩ (fun c134946 => ?_) (fun c134946 => ?_))
  · refine wp_of e249 c249_26 (rw_iconst (pc' := 27) rfl ?_)
    refine wp_of e249 c249_27 (rw_istore (pc' := 29) (z := 0) (L' := [(4, vI 0), (3, vI z134943), (0, .ref r0), (1, vI a1), (2, vI a2)]) rfl rfl rfl ?_)
    refine wp_of e249 c249_29 (rw_iconst (pc' := 30) rfl ?_)
    refine wp_of e249 c249_30 (rw_istore (pc' := 32) (z := 0) (L' := [(5, vI 0), (4, vI 0), (3, vI z134943), (0, .ref r0), (1, vI a1), (2, vI a2)]) rfl rfl rfl ?_)
    have lp135212 : ∀ (n135213 : Nat) (v135215 : Int) (v135216 : Int) (H135217 : wq_H), WT T H135217 → wfr [(51, 999)] T H134933 H135217 → (0 ≤ v135215 ∧ v135215 ≤ 20000) → ((-2147483648) ≤ v135216 ∧ v135216 ≤ 2147483647) → (20000 - v135215).toNat = n135213 → wp kt 7 249 32 [(5, vI v135215), (4, vI v135216), (0, .ref r0), (1, vI a1), (2, vI a2)] [] T H135217 (q_249 r0 a1 a2 T H) := by
      intro n135213
      induction n135213 using Nat.strongRecOn with
      | _ n135213 ih135214 =>
        intro v135215 v135216 H135217 w135218 f135219 b135220 b135221 m135222
        have f135223 := f134945.tr f135219 rfl
        refine wp_of e249 c249_32 (rw_iload (pc' := 34) (z := v135215) rfl rfl ?_)
        refine wp_of e249 c249_34 (rw_aload_n (pc' := 35) (v := .ref r0) rfl rfl rfl ?_)
        have k135224 : H135217 r0 29 = H134933 r0 29 := (f135219 r0 29 _ g0 rfl)
        refine wp_of e249 c249_35 (xg_I (pc' := 38) lf_9_422 w135218 g0 sh_42 (by decide) (by decide) ty_42_29 rfl rfl (fun b135225 b135226 => ?_))
        refine wp_of e249 c249_38 (rw_icmp_ge (p1 := 78) (p2 := 41) (by decide) rfl ⟨by omega, by omega⟩ ⟨by omega, by omega⟩ (fun c135227 => ?_) (fun c135227 => ?_))
        · refine wp_of e249 c249_78 (rw_aload_n (pc' := 79) (v := .ref r0) rfl rfl rfl ?_)
          refine wp_of e249 c249_79 (rw_iload (pc' := 81) (z := v135216) rfl rfl ?_)
          refine wp_of e249 c249_81 (xc_V (pc' := 84) (r := r0) (as := [vI v135216]) (st := []) (lm_9_58) rfl rfl (Nat.le_of_ble_eq_true rfl) w135218 g0 sh_42 (by decide) rfl (by decide) (s_209 w135218 g0 ⟨by omega, by omega⟩) (fun R135228 T135229 H135230 p135231 => ?_))
          obtain ⟨e135232, w135234, f135235, z135236, e135233, b135237⟩ := p135231
          subst e135232
          subst e135233
          have f135238 := f135223.tr f135235 rfl
          show wp _ _ 249 84 [(5, vI v135215), (4, vI v135216), (0, .ref r0), (1, vI a1), (2, vI a2)] [vI z135236] _ H135230 _
          have k135239 : wKI H135230 r0 = wKI H134933 r0 := ((wKI_fr w135218 g0 f135235 rfl).trans (wKI_fr w134937 g0 f135219 rfl))
          exact wp_ireturn e249 c249_84 rfl ⟨rfl, w135234, f135238, z135236, rfl, ⟨by omega, by omega⟩, by omega⟩
        · refine wp_of e249 c249_41 (rw_aload_n (pc' := 42) (v := .ref r0) rfl rfl rfl ?_)
          refine wp_of e249 c249_42 (rw_aload_n (pc' := 43) (v := .ref r0) rfl rfl rfl ?_)
          refine wp_of e249 c249_43 (xg_R (pc' := 46) lf_9_42 w135218 g0 sh_42 (by decide) (by decide) ty_42_30 rfl rfl (fun r135240 q135241 g135242 => ?_))
          refine wp_of e249 c249_46 (rw_iload (pc' := 48) (z := v135215) rfl rfl ?_)
          refine wp_of e249 c249_48 (xa_I (so := 0) (pc' := 49) w135218 g135242 sh_52 (by decide) (ty_52 _) (by omega) (by omega) rfl (fun b135243 b135244 => ?_))
          have k135245 : wLM H135217 r0 = wLM H134933 r0 := (wLM_fr w134937 g0 f135219 rfl)
          have k135246 : H135217 r0 3 = H134915 r0 3 := ((f135219 r0 3 _ g0 rfl).trans (f134938 r0 3 _ g0 rfl))
          obtain ⟨r135247, q135248, g135249⟩ := (w135218.opt g0 (t' := 54) (n := 33) (j := 3) (p := 0) (q := 0) rfl (by decide) rfl).resolve_left (by omega)
          refine wp_of e249 c249_49 (xc_V (pc' := 52) (r := r0) (as := [vI (H135217 r135240 (v135215.toNat))]) (st := []) (lm_9_425) rfl rfl (Nat.le_of_ble_eq_true rfl) w135218 g0 sh_42 (by decide) rfl (by decide) (s_243 w135218 g0 ⟨by omega, by omega⟩ q135248 g135249 (by omega)) (fun R135250 T135251 H135252 p135253 => ?_))
          obtain ⟨e135254, w135256, f135257, e135255⟩ := p135253
          subst e135254
          subst e135255
          have f135258 := f135223.tr f135257 rfl
          have f135259 := f135219.tr f135257 rfl
          show wp _ _ 249 52 [(5, vI v135215), (4, vI v135216), (0, .ref r0), (1, vI a1), (2, vI a2)] [] _ H135252 _
          refine wp_of e249 c249_52 (rw_iload (pc' := 54) (z := v135216) rfl rfl ?_)
          refine wp_of e249 c249_54 (rw_aload_n (pc' := 55) (v := .ref r0) rfl rfl rfl ?_)
          refine wp_of e249 c249_55 (xg_R (pc' := 58) lf_9_39 w135256 g0 sh_42 (by decide) (by decide) ty_42_27 rfl rfl (fun r135260 q135261 g135262 => ?_))
          refine wp_of e249 c249_58 (rw_iload_n (pc' := 59) (z := a1) rfl rfl ?_)
          refine wp_of e249 c249_59 (xa_I (so := 0) (pc' := 60) w135256 g135262 sh_51 (by decide) (ty_51 _) (by omega) (by omega) rfl (fun b135263 b135264 => ?_))
          refine wp_of e249 c249_60 (rw_iload_n (pc' := 61) (z := a2) rfl rfl ?_)
          refine wp_of e249 c249_61 (rw_icmp_ne (p1 := 68) (p2 := 64) (by decide) rfl ⟨by omega, by omega⟩ ⟨by omega, by omega⟩ (fun c135265 => ?_) (fun c135265 => ?_))
          · refine wp_of e249 c249_68 (rw_iconst (pc' := 69) rfl ?_)
            refine wp_of e249 c249_69 (rw_iadd (pc' := 70) rfl ?_)
            refine wp_of e249 c249_70 (rw_istore (pc' := 72) (z := v135216 + 0) (L' := [(4, vI (v135216 + 0)), (5, vI v135215), (0, .ref r0), (1, vI a1), (2, vI a2)]) rfl rfl rfl ?_)
            refine wp_of e249 c249_72 (rw_iinc (pc' := 75) (z := v135215) (L' := [(5, vI (v135215 + 1)), (4, vI (v135216 + 0)), (0, .ref r0), (1, vI a1), (2, vI a2)]) rfl rfl rfl rfl ?_)
            refine wp_of e249 c249_75 (rw_goto (p1 := 32) (by decide) ?_)
            exact wp_lc (ks := [5, 4, 0, 1, 2]) (wl_c rfl (wl_c rfl (wl_c rfl (wl_c rfl (wl_c rfl wl_n))))) rfl (by decide) (ih135214 _ (by omega) (v135215 + 1) (v135216 + 0) H135252 w135256 f135259 ⟨by omega, by omega⟩ ⟨by omega, by omega⟩ rfl)
          · refine wp_of e249 c249_64 (rw_iconst (pc' := 65) rfl ?_)
            refine wp_of e249 c249_65 (rw_goto (p1 := 69) (by decide) ?_)
            refine wp_of e249 c249_69 (rw_iaddw (pc' := 70) rfl ?_)
            obtain ⟨v135266, e135267⟩ : ∃ x : Int, x = wq_w (v135216 + 1) := ⟨_, rfl⟩
            rw [← e135267]
            have b135268 : -2147483648 ≤ v135266 ∧ v135266 ≤ 2147483647 := by
              rw [e135267]
              exact wI_w _
            refine wp_of e249 c249_70 (rw_istore (pc' := 72) (z := v135266) (L' := [(4, vI v135266), (5, vI v135215), (0, .ref r0), (1, vI a1), (2, vI a2)]) rfl rfl rfl ?_)
            refine wp_of e249 c249_72 (rw_iinc (pc' := 75) (z := v135215) (L' := [(5, vI (v135215 + 1)), (4, vI v135266), (0, .ref r0), (1, vI a1), (2, vI a2)]) rfl rfl rfl rfl ?_)
            refine wp_of e249 c249_75 (rw_goto (p1 := 32) (by decide) ?_)
            exact wp_lc (ks := [5, 4, 0, 1, 2]) (wl_c rfl (wl_c rfl (wl_c rfl (wl_c rfl (wl_c rfl wl_n))))) rfl (by decide) (ih135214 _ (by omega) (v135215 + 1) v135266 H135252 w135256 f135259 ⟨by omega, by omega⟩ ⟨by omega, by omega⟩ rfl)
    exact wp_lc (ks := [5, 4, 3, 0, 1, 2]) (wl_c rfl (wl_c rfl (wl_c rfl (wl_c rfl (wl_c rfl wl_n))))) rfl (by decide) (lp135212 _ 0 0 H134933 w134937 wfr.rf ⟨by omega, by omega⟩ ⟨by omega, by omega⟩ rfl)
  · refine wp_of e249 c249_20 (rw_aload_n (pc' := 21) (v := .ref r0) rfl rfl rfl ?_)
    refine wp_of e249 c249_21 (rw_iload_n (pc' := 22) (z := z134943) rfl rfl ?_)
    refine wp_of e249 c249_22 (xc_V (pc' := 25) (r := r0) (as := [vI z134943]) (st := []) (lm_9_54) rfl rfl (Nat.le_of_ble_eq_true rfl) w134937 g0 sh_42 (by decide) rfl (by decide) (s_170 w134937 g0 ⟨by omega, by omega⟩) (fun R135269 T135270 H135271 p135272 => ?_))
    obtain ⟨e135273, w135275, f135276, z135277, e135274, b135278⟩ := p135272
    subst e135273
    subst e135274
    have f135279 := f134945.tr f135276 rfl
    show wp _ _ 249 25 [(3, vI z134943), (0, .ref r0), (1, vI a1), (2, vI a2)] [vI z135277] _ H135271 _
    have k135280 : wKI H135271 r0 = wKI H134933 r0 := (wKI_fr w134937 g0 f135276 rfl)
    exact wp_ireturn e249 c249_25 rfl ⟨rfl, w135275, f135279, z135277, rfl, ⟨by omega, by omega⟩, by omega⟩
/-! StrikeAwakeModel.awakeIn(II)I -/
theorem e251 : wq_en 251 = some (9, 5, false, some FieldType.int) := rfl
theorem c251_0 : mc_cd 251 0 = some (.iconst 0, 1) := by decide +kernel
theorem c251_1 : mc_cd 251 1 = some (.istore_n 3, 1) := by decide +kernel
theorem c251_2 : mc_cd 251 2 = some (.iconst 0, 1) := by decide +kernel
theorem c251_3 : mc_cd 251 3 = some (.istore 4, 2) := by decide +kernel
theorem c251_5 : mc_cd 251 5 = some (.iload 4, 2) := by decide +kernel
theorem c251_7 : mc_cd 251 7 = some (.aload_n 0, 1) := by decide +kernel
theorem c251_8 : mc_cd 251 8 = some (.getfield 422, 3) := by decide +kernel
theorem c251_11 : mc_cd 251 11 = some (.if_icmp .ge 51, 3) := by decide +kernel
theorem c251_14 : mc_cd 251 14 = some (.aload_n 0, 1) := by decide +kernel
theorem c251_15 : mc_cd 251 15 = some (.aload_n 0, 1) := by decide +kernel
theorem c251_16 : mc_cd 251 16 = some (.getfield 42, 3) := by decide +kernel
theorem c251_19 : mc_cd 251 19 = some (.iload 4, 2) := by decide +kernel
theorem c251_21 : mc_cd 251 21 = some (.iaload, 1) := by decide +kernel
theorem c251_22 : mc_cd 251 22 = some (.invokevirtual 425, 3) := by decide +kernel
theorem c251_25 : mc_cd 251 25 = some (.iload_n 3, 1) := by decide +kernel
theorem c251_26 : mc_cd 251 26 = some (.aload_n 0, 1) := by decide +kernel
theorem c251_27 : mc_cd 251 27 = some (.getfield 33, 3) := by decide +kernel
theorem c251_30 : mc_cd 251 30 = some (.bipush 40, 2) := by decide +kernel
theorem c251_32 : mc_cd 251 32 = some (.iload_n 1, 1) := by decide +kernel
theorem c251_33 : mc_cd 251 33 = some (.imul, 1) := by decide +kernel
theorem c251_34 : mc_cd 251 34 = some (.aload_n 0, 1) := by decide +kernel
theorem c251_35 : mc_cd 251 35 = some (.getfield 39, 3) := by decide +kernel
theorem c251_38 : mc_cd 251 38 = some (.iload_n 1, 1) := by decide +kernel
theorem c251_39 : mc_cd 251 39 = some (.iaload, 1) := by decide +kernel
theorem c251_40 : mc_cd 251 40 = some (.iadd, 1) := by decide +kernel
theorem c251_41 : mc_cd 251 41 = some (.iaload, 1) := by decide +kernel
theorem c251_42 : mc_cd 251 42 = some (.iload_n 2, 1) := by decide +kernel
theorem c251_43 : mc_cd 251 43 = some (.invokestatic 346, 3) := by decide +kernel
theorem c251_46 : mc_cd 251 46 = some (.ifCond .eq 7, 3) := by decide +kernel
theorem c251_49 : mc_cd 251 49 = some (.iconst 1, 1) := by decide +kernel
theorem c251_50 : mc_cd 251 50 = some (.goto 4, 3) := by decide +kernel
theorem c251_53 : mc_cd 251 53 = some (.iconst 0, 1) := by decide +kernel
theorem c251_54 : mc_cd 251 54 = some (.iadd, 1) := by decide +kernel
theorem c251_55 : mc_cd 251 55 = some (.istore_n 3, 1) := by decide +kernel
theorem c251_56 : mc_cd 251 56 = some (.iinc 4 1, 3) := by decide +kernel
theorem c251_59 : mc_cd 251 59 = some (.goto (-54), 3) := by decide +kernel
theorem c251_62 : mc_cd 251 62 = some (.iload_n 3, 1) := by decide +kernel
theorem c251_63 : mc_cd 251 63 = some (.ireturn, 1) := by decide +kernel
abbrev q_251 (r0 : Nat) (a1 : Int) (a2 : Int) (pp : Nat) (T : wq_T) (H : wq_H) : Option Value → wq_T → wq_H → Prop := fun r T' H' => T = T' ∧ WT T H' ∧ wfr [(51, 999)] T H H' ∧ ∃ z : Int, some (vI z) = r ∧ ((-2147483648) ≤ z ∧ z ≤ 2147483647)
set_option maxHeartbeats 4000000 in
theorem s_251 {kt : Nat → Option mc_E} {T : wq_T} {H : wq_H} {r0 : Nat} {a1 : Int} {a2 : Int} {pp : Nat} (hW : WT T H) (g0 : T.2.2.2 r0 = some 42) (i1 : 0 ≤ a1 ∧ a1 ≤ 5) (i2 : (-2147483648) ≤ a2 ∧ a2 ≤ 2147483647) (qpp : H r0 3 = (pp : Int)) (gpp : T.2.2.2 pp = some 54) (p0 : H r0 29 = 0 ∨ 0 < wLM H r0) : wpc kt 2 251 [.ref r0, vI a1, vI a2] T H (q_251 r0 a1 a2 pp T H) := by
  refine wp_enter e251 (Nat.le_of_ble_eq_true rfl) rfl ?_
  have f0 : wfr [(51, 999)] T H H := wfr.rf
  show wp _ _ 251 0 [(0, .ref r0), (1, vI a1), (2, vI a2)] [] _ H _
  have b135698 : 0 ≤ H r0 29 ∧ H r0 29 ≤ 20000 := hW.box g0 (n := 33) rfl (by decide) rfl
  refine wp_of e251 c251_0 (rw_iconst (pc' := 1) rfl ?_)
  refine wp_of e251 c251_1 (rw_istore_n (pc' := 2) (z := 0) (L' := [(3, vI 0), (0, .ref r0), (1, vI a1), (2, vI a2)]) rfl rfl rfl ?_)
  refine wp_of e251 c251_2 (rw_iconst (pc' := 3) rfl ?_)
  refine wp_of e251 c251_3 (rw_istore (pc' := 5) (z := 0) (L' := [(4, vI 0), (3, vI 0), (0, .ref r0), (1, vI a1), (2, vI a2)]) rfl rfl rfl ?_)
  have lp136072 : ∀ (n136073 : Nat) (v136075 : Int) (v136076 : Int) (H136077 : wq_H), WT T H136077 → wfr [(51, 999)] T H H136077 → (0 ≤ v136075 ∧ v136075 ≤ 20000) → ((-2147483648) ≤ v136076 ∧ v136076 ≤ 2147483647) → (20000 - v136075).toNat = n136073 → wp kt 1 251 5 [(4, vI v136075), (3, vI v136076), (0, .ref r0), (1, vI a1), (2, vI a2)] [] T H136077 (q_251 r0 a1 a2 pp T H) := by
    intro n136073
    induction n136073 using Nat.strongRecOn with
    | _ n136073 ih136074 =>
      intro v136075 v136076 H136077 w136078 f136079 b136080 b136081 m136082
      have f136083 := f0.tr f136079 rfl
      refine wp_of e251 c251_5 (rw_iload (pc' := 7) (z := v136075) rfl rfl ?_)
      refine wp_of e251 c251_7 (rw_aload_n (pc' := 8) (v := .ref r0) rfl rfl rfl ?_)
      have k136084 : H136077 r0 29 = H r0 29 := (f136079 r0 29 _ g0 rfl)
      refine wp_of e251 c251_8 (xg_I (pc' := 11) lf_9_422 w136078 g0 sh_42 (by decide) (by decide) ty_42_29 rfl rfl (fun b136085 b136086 => ?_))
      refine wp_of e251 c251_11 (rw_icmp_ge (p1 := 62) (p2 := 14) (by decide) rfl ⟨by omega, by omega⟩ ⟨by omega, by omega⟩ (fun c136087 => ?_) (fun c136087 => ?_))
      · refine wp_of e251 c251_62 (rw_iload_n (pc' := 63) (z := v136076) rfl rfl ?_)
        exact wp_ireturn e251 c251_63 rfl ⟨rfl, w136078, f136083, v136076, rfl, ⟨by omega, by omega⟩⟩
      · refine wp_of e251 c251_14 (rw_aload_n (pc' := 15) (v := .ref r0) rfl rfl rfl ?_)
        refine wp_of e251 c251_15 (rw_aload_n (pc' := 16) (v := .ref r0) rfl rfl rfl ?_)
        refine wp_of e251 c251_16 (xg_R (pc' := 19) lf_9_42 w136078 g0 sh_42 (by decide) (by decide) ty_42_30 rfl rfl (fun r136088 q136089 g136090 => ?_))
        refine wp_of e251 c251_19 (rw_iload (pc' := 21) (z := v136075) rfl rfl ?_)
        refine wp_of e251 c251_21 (xa_I (so := 0) (pc' := 22) w136078 g136090 sh_52 (by decide) (ty_52 _) (by omega) (by omega) rfl (fun b136091 b136092 => ?_))
        have k136093 : wLM H136077 r0 = wLM H r0 := (wLM_fr hW g0 f136079 rfl)
        have k136094 : H136077 r0 3 = H r0 3 := (f136079 r0 3 _ g0 rfl)
        have q136095 : H136077 r0 3 = (pp : Int) := k136094.trans qpp
        refine wp_of e251 c251_22 (xc_V (pc' := 25) (r := r0) (as := [vI (H136077 r136088 (v136075.toNat))]) (st := []) (lm_9_425) rfl rfl (Nat.le_of_ble_eq_true rfl) w136078 g0 sh_42 (by decide) rfl (by decide) (s_243 w136078 g0 ⟨by omega, by omega⟩ q136095 gpp (by omega)) (fun R136096 T136097 H136098 p136099 => ?_))
        obtain ⟨e136100, w136102, f136103, e136101⟩ := p136099
        subst e136100
        subst e136101
        have f136104 := f136083.tr f136103 rfl
        have f136105 := f136079.tr f136103 rfl
        show wp _ _ 251 25 [(4, vI v136075), (3, vI v136076), (0, .ref r0), (1, vI a1), (2, vI a2)] [] _ H136098 _
        refine wp_of e251 c251_25 (rw_iload_n (pc' := 26) (z := v136076) rfl rfl ?_)
        refine wp_of e251 c251_26 (rw_aload_n (pc' := 27) (v := .ref r0) rfl rfl rfl ?_)
        refine wp_of e251 c251_27 (xg_R (pc' := 30) lf_9_33 w136102 g0 sh_42 (by decide) (by decide) ty_42_25 rfl rfl (fun r136106 q136107 g136108 => ?_))
        refine wp_of e251 c251_30 (rw_bipush (pc' := 32) (z := 40) rfl (by decide) ?_)
        refine wp_of e251 c251_32 (rw_iload_n (pc' := 33) (z := a1) rfl rfl ?_)
        refine wp_of e251 c251_33 (rw_imul (pc' := 34) rfl ?_)
        refine wp_of e251 c251_34 (rw_aload_n (pc' := 35) (v := .ref r0) rfl rfl rfl ?_)
        refine wp_of e251 c251_35 (xg_R (pc' := 38) lf_9_39 w136102 g0 sh_42 (by decide) (by decide) ty_42_27 rfl rfl (fun r136109 q136110 g136111 => ?_))
        refine wp_of e251 c251_38 (rw_iload_n (pc' := 39) (z := a1) rfl rfl ?_)
        refine wp_of e251 c251_39 (xa_I (so := 0) (pc' := 40) w136102 g136111 sh_51 (by decide) (ty_51 _) (by omega) (by omega) rfl (fun b136112 b136113 => ?_))
        refine wp_of e251 c251_40 (rw_iadd (pc' := 41) rfl ?_)
        refine wp_of e251 c251_41 (xa_I (so := 0) (pc' := 42) w136102 g136108 sh_49 (by decide) (ty_49 _) (by omega) (by omega) rfl (fun b136114 b136115 => ?_))
        refine wp_of e251 c251_42 (rw_iload_n (pc' := 43) (z := a2) rfl rfl ?_)
        refine wp_of e251 c251_43 (xc_S (pc' := 46) (as := [vI (H136098 r136106 (((40 * a1) + (H136098 r136109 (a1.toNat))).toNat)), vI a2]) (st := [vI v136076]) (lm_9_346) rfl rfl (Nat.le_of_ble_eq_true rfl) rfl (by decide) (s_205 w136102 ⟨by omega, by omega⟩ ⟨by omega, by omega⟩) (fun R136116 T136117 H136118 p136119 => ?_))
        obtain ⟨e136120, e136122, z136123, e136121, b136124⟩ := p136119
        subst e136120
        subst e136121
        subst e136122
        show wp _ _ 251 46 [(4, vI v136075), (3, vI v136076), (0, .ref r0), (1, vI a1), (2, vI a2)] [vI z136123, vI v136076] _ H136098 _
        refine wp_of e251 c251_46 (rw_if_eq (p1 := 53) (p2 := 49) (by decide) rfl ⟨by omega, by omega⟩ (fun c136125 => ?_) (fun c136125 => ?_))
        · refine wp_of e251 c251_53 (rw_iconst (pc' := 54) rfl ?_)
          refine wp_of e251 c251_54 (rw_iadd (pc' := 55) rfl ?_)
          refine wp_of e251 c251_55 (rw_istore_n (pc' := 56) (z := v136076 + 0) (L' := [(3, vI (v136076 + 0)), (4, vI v136075), (0, .ref r0), (1, vI a1), (2, vI a2)]) rfl rfl rfl ?_)
          refine wp_of e251 c251_56 (rw_iinc (pc' := 59) (z := v136075) (L' := [(4, vI (v136075 + 1)), (3, vI (v136076 + 0)), (0, .ref r0), (1, vI a1), (2, vI a2)]) rfl rfl rfl rfl ?_)
          refine wp_of e251 c251_59 (rw_goto (p1 := 5) (by decide) ?_)
          exact wp_lc (ks := [4, 3, 0, 1, 2]) (wl_c rfl (wl_c rfl (wl_c rfl (wl_c rfl (wl_c rfl wl_n))))) rfl (by decide) (ih136074 _ (by omega) (v136075 + 1) (v136076 + 0) H136098 w136102 f136105 ⟨by omega, by omega⟩ ⟨by omega, by omega⟩ rfl)
        · refine wp_of e251 c251_49 (rw_iconst (pc' := 50) rfl ?_)
          refine wp_of e251 c251_50 (rw_goto (p1 := 54) (by decide) ?_)
          refine wp_of e251 c251_54 (rw_iaddw (pc' := 55) rfl ?_)
          obtain ⟨v136126, e136127⟩ : ∃ x : Int, x = wq_w (v136076 + 1) := ⟨_, rfl⟩
          rw [← e136127]
          have b136128 : -2147483648 ≤ v136126 ∧ v136126 ≤ 2147483647 := by
            rw [e136127]
            exact wI_w _
          refine wp_of e251 c251_55 (rw_istore_n (pc' := 56) (z := v136126) (L' := [(3, vI v136126), (4, vI v136075), (0, .ref r0), (1, vI a1), (2, vI a2)]) rfl rfl rfl ?_)
          refine wp_of e251 c251_56 (rw_iinc (pc' := 59) (z := v136075) (L' := [(4, vI (v136075 + 1)), (3, vI v136126), (0, .ref r0), (1, vI a1), (2, vI a2)]) rfl rfl rfl rfl ?_)
          refine wp_of e251 c251_59 (rw_goto (p1 := 5) (by decide) ?_)
          exact wp_lc (ks := [4, 3, 0, 1, 2]) (wl_c rfl (wl_c rfl (wl_c rfl (wl_c rfl (wl_c rfl wl_n))))) rfl (by decide) (ih136074 _ (by omega) (v136075 + 1) v136126 H136098 w136102 f136105 ⟨by omega, by omega⟩ ⟨by omega, by omega⟩ rfl)
  exact wp_lc (ks := [4, 3, 0, 1, 2]) (wl_c rfl (wl_c rfl (wl_c rfl (wl_c rfl (wl_c rfl wl_n))))) rfl (by decide) (lp136072 _ 0 0 H hW wfr.rf ⟨by omega, by omega⟩ ⟨by omega, by omega⟩ rfl)
/-! StrikeAwakeModel.times(II)I -/
theorem e250 : wq_en 250 = some (9, 4, false, some FieldType.int) := rfl
theorem c250_0 : mc_cd 250 0 = some (.aload_n 0, 1) := by decide +kernel
theorem c250_1 : mc_cd 250 1 = some (.iconst 0, 1) := by decide +kernel
theorem c250_2 : mc_cd 250 2 = some (.putfield 48, 3) := by decide +kernel
theorem c250_5 : mc_cd 250 5 = some (.aload_n 0, 1) := by decide +kernel
theorem c250_6 : mc_cd 250 6 = some (.aload_n 0, 1) := by decide +kernel
theorem c250_7 : mc_cd 250 7 = some (.iload_n 1, 1) := by decide +kernel
theorem c250_8 : mc_cd 250 8 = some (.invokevirtual 364, 3) := by decide +kernel
theorem c250_11 : mc_cd 250 11 = some (.ifCond .eq 15, 3) := by decide +kernel
theorem c250_14 : mc_cd 250 14 = some (.aload_n 0, 1) := by decide +kernel
theorem c250_15 : mc_cd 250 15 = some (.iload_n 2, 1) := by decide +kernel
theorem c250_16 : mc_cd 250 16 = some (.invokevirtual 373, 3) := by decide +kernel
theorem c250_19 : mc_cd 250 19 = some (.ifCond .eq 7, 3) := by decide +kernel
theorem c250_22 : mc_cd 250 22 = some (.iconst 1, 1) := by decide +kernel
theorem c250_23 : mc_cd 250 23 = some (.goto 4, 3) := by decide +kernel
theorem c250_26 : mc_cd 250 26 = some (.iconst 0, 1) := by decide +kernel
theorem c250_27 : mc_cd 250 27 = some (.invokevirtual 433, 3) := by decide +kernel
theorem c250_30 : mc_cd 250 30 = some (.istore_n 3, 1) := by decide +kernel
theorem c250_31 : mc_cd 250 31 = some (.iload_n 3, 1) := by decide +kernel
theorem c250_32 : mc_cd 250 32 = some (.ifCond .le 11, 3) := by decide +kernel
theorem c250_35 : mc_cd 250 35 = some (.aload_n 0, 1) := by decide +kernel
theorem c250_36 : mc_cd 250 36 = some (.iload_n 3, 1) := by decide +kernel
theorem c250_37 : mc_cd 250 37 = some (.invokevirtual 54, 3) := by decide +kernel
theorem c250_40 : mc_cd 250 40 = some (.goto 13, 3) := by decide +kernel
theorem c250_43 : mc_cd 250 43 = some (.aload_n 0, 1) := by decide +kernel
theorem c250_44 : mc_cd 250 44 = some (.aload_n 0, 1) := by decide +kernel
theorem c250_45 : mc_cd 250 45 = some (.iload_n 1, 1) := by decide +kernel
theorem c250_46 : mc_cd 250 46 = some (.iload_n 2, 1) := by decide +kernel
theorem c250_47 : mc_cd 250 47 = some (.invokevirtual 444, 3) := by decide +kernel
theorem c250_50 : mc_cd 250 50 = some (.invokevirtual 58, 3) := by decide +kernel
theorem c250_53 : mc_cd 250 53 = some (.ireturn, 1) := by decide +kernel
abbrev q_250 (r0 : Nat) (a1 : Int) (a2 : Int) (T : wq_T) (H : wq_H) : Option Value → wq_T → wq_H → Prop := fun r T' H' => T = T' ∧ WT T H' ∧ wfr [(42, 0), (42, 1), (42, 2), (42, 28), (42, 29), (51, 999), (52, 999)] T H H' ∧ ∃ z : Int, some (vI z) = r ∧ ((-2147483648) ≤ z ∧ z ≤ 2147483647) ∧ (wKI H' r0 = 1)
set_option maxHeartbeats 4000000 in
theorem s_250 {kt : Nat → Option mc_E} {T : wq_T} {H : wq_H} {r0 : Nat} {a1 : Int} {a2 : Int} (hW : WT T H) (g0 : T.2.2.2 r0 = some 42) (i1 : (-2147483648) ≤ a1 ∧ a1 ≤ 2147483647) (i2 : (-2147483648) ≤ a2 ∧ a2 ≤ 2147483647) (p0 : wKI H r0 = 1) : wpc kt 8 250 [.ref r0, vI a1, vI a2] T H (q_250 r0 a1 a2 T H) := by
  refine wp_enter e250 (Nat.le_of_ble_eq_true rfl) rfl ?_
  have f0 : wfr [(42, 0), (42, 1), (42, 2), (42, 28), (42, 29), (51, 999), (52, 999)] T H H := wfr.rf
  show wp _ _ 250 0 [(0, .ref r0), (1, vI a1), (2, vI a2)] [] _ H _
  refine wp_of e250 c250_0 (rw_aload_n (pc' := 1) (v := .ref r0) rfl rfl rfl ?_)
  refine wp_of e250 c250_1 (rw_iconst (pc' := 2) rfl ?_)
  refine wp_of e250 c250_2 (xp_I (pc' := 5) lf_9_48 hW g0 sh_42 (by decide) (by decide) ty_42_0 rfl rfl (by omega) (by omega) ⟨by omega, by omega⟩ rfl (fun H136270 e136271 w136272 => ?_))
  have f136273 := f0.put' e136271 g0 rfl
  have k136274 : H136270 r0 0 = 0 := wq_u_s e136271
  refine wp_of e250 c250_5 (rw_aload_n (pc' := 6) (v := .ref r0) rfl rfl rfl ?_)
  refine wp_of e250 c250_6 (rw_aload_n (pc' := 7) (v := .ref r0) rfl rfl rfl ?_)
  refine wp_of e250 c250_7 (rw_iload_n (pc' := 8) (z := a1) rfl rfl ?_)
  refine wp_of e250 c250_8 (xc_V (pc' := 11) (r := r0) (as := [vI a1]) (st := [.ref r0]) (lm_9_364) rfl rfl (Nat.le_of_ble_eq_true rfl) w136272 g0 sh_42 (by decide) rfl (by decide) (s_213 w136272 g0 ⟨by omega, by omega⟩) (fun R136275 T136276 H136277 p136278 => ?_))
  obtain ⟨e136279, e136281, z136283, e136280, b136284, p136282⟩ := p136278
  subst e136279
  subst e136280
  subst e136281
  show wp _ _ 250 11 [(0, .ref r0), (1, vI a1), (2, vI a2)] [vI z136283, .ref r0] _ H136270 _
  refine wp_of e250 c250_11 (rw_if_eq (p1 := 26) (p2 := 14) (by decide) rfl ⟨by omega, by omega⟩ (fun c136285 => ?_) (fun c136285 => ?_))
  · refine wp_of e250 c250_26 (rw_iconst (pc' := 27) rfl ?_)
    have k136286 : wKI H136270 r0 = wKI H r0 := (wKI_fr hW g0 ((wfr.rf (l := [(42, 0)])).put' e136271 g0 rfl) rfl)
    refine wp_of e250 c250_27 (xc_V (pc' := 30) (r := r0) (as := [vI 0]) (st := []) (lm_9_433) rfl rfl (Nat.le_of_ble_eq_true rfl) w136272 g0 sh_42 (by decide) rfl (by decide) (s_241 w136272 g0 ⟨by omega, by omega⟩ (by omega) (by omega)) (fun R136287 T136288 H136289 p136290 => ?_))
    obtain ⟨e136291, w136293, f136294, z136299, e136292, b136300, p136295, p136296, p136297, p136298⟩ := p136290
    subst e136291
    subst e136292
    have f136301 := f136273.tr f136294 rfl
    show wp _ _ 250 30 [(0, .ref r0), (1, vI a1), (2, vI a2)] [vI z136299] _ H136289 _
    refine wp_of e250 c250_30 (rw_istore_n (pc' := 31) (z := z136299) (L' := [(3, vI z136299), (0, .ref r0), (1, vI a1), (2, vI a2)]) rfl rfl rfl ?_)
    refine wp_of e250 c250_31 (rw_iload_n (pc' := 32) (z := z136299) rfl rfl ?_)
    refine wp_of e250 c250_32 (rw_if_le (p1 := 43) (p2 := 35) (by decide) rfl ⟨by omega, by omega⟩ (fun c136302 => ?_) (fun c136302 => ?_))
    · exfalso
      omega
    · refine wp_of e250 c250_35 (rw_aload_n (pc' := 36) (v := .ref r0) rfl rfl rfl ?_)
      refine wp_of e250 c250_36 (rw_iload_n (pc' := 37) (z := z136299) rfl rfl ?_)
      refine wp_of e250 c250_37 (xc_V (pc' := 40) (r := r0) (as := [vI z136299]) (st := []) (lm_9_54) rfl rfl (Nat.le_of_ble_eq_true rfl) w136293 g0 sh_42 (by decide) rfl (by decide) (s_170 w136293 g0 ⟨by omega, by omega⟩) (fun R136303 T136304 H136305 p136306 => ?_))
      obtain ⟨e136307, w136309, f136310, z136311, e136308, b136312⟩ := p136306
      subst e136307
      subst e136308
      have f136313 := f136301.tr f136310 rfl
      show wp _ _ 250 40 [(3, vI z136299), (0, .ref r0), (1, vI a1), (2, vI a2)] [vI z136311] _ H136305 _
      refine wp_of e250 c250_40 (rw_goto (p1 := 53) (by decide) ?_)
      have k136314 : wKI H136305 r0 = wKI H136289 r0 := (wKI_fr w136293 g0 f136310 rfl)
      exact wp_ireturn e250 c250_53 rfl ⟨rfl, w136309, f136313, z136311, rfl, ⟨by omega, by omega⟩, by omega⟩
  · refine wp_of e250 c250_14 (rw_aload_n (pc' := 15) (v := .ref r0) rfl rfl rfl ?_)
    refine wp_of e250 c250_15 (rw_iload_n (pc' := 16) (z := a2) rfl rfl ?_)
    refine wp_of e250 c250_16 (xc_V (pc' := 19) (r := r0) (as := [vI a2]) (st := [.ref r0]) (lm_9_373) rfl rfl (Nat.le_of_ble_eq_true rfl) w136272 g0 sh_42 (by decide) rfl (by decide) (s_218 w136272 g0 ⟨by omega, by omega⟩) (fun R136315 T136316 H136317 p136318 => ?_))
    obtain ⟨e136319, e136321, z136323, e136320, b136324, p136322⟩ := p136318
    subst e136319
    subst e136320
    subst e136321
    show wp _ _ 250 19 [(0, .ref r0), (1, vI a1), (2, vI a2)] [vI z136323, .ref r0] _ H136270 _
    refine wp_of e250 c250_19 (rw_if_eq (p1 := 26) (p2 := 22) (by decide) rfl ⟨by omega, by omega⟩ (fun c136325 => ?_) (fun c136325 => ?_))
    · refine wp_of e250 c250_26 (rw_iconst (pc' := 27) rfl ?_)
      have k136326 : wKI H136270 r0 = wKI H r0 := (wKI_fr hW g0 ((wfr.rf (l := [(42, 0)])).put' e136271 g0 rfl) rfl)
      refine wp_of e250 c250_27 (xc_V (pc' := 30) (r := r0) (as := [vI 0]) (st := []) (lm_9_433) rfl rfl (Nat.le_of_ble_eq_true rfl) w136272 g0 sh_42 (by decide) rfl (by decide) (s_241 w136272 g0 ⟨by omega, by omega⟩ (by omega) (by omega)) (fun R136327 T136328 H136329 p136330 => ?_))
      obtain ⟨e136331, w136333, f136334, z136339, e136332, b136340, p136335, p136336, p136337, p136338⟩ := p136330
      subst e136331
      subst e136332
      have f136341 := f136273.tr f136334 rfl
      show wp _ _ 250 30 [(0, .ref r0), (1, vI a1), (2, vI a2)] [vI z136339] _ H136329 _
      refine wp_of e250 c250_30 (rw_istore_n (pc' := 31) (z := z136339) (L' := [(3, vI z136339), (0, .ref r0), (1, vI a1), (2, vI a2)]) rfl rfl rfl ?_)
      refine wp_of e250 c250_31 (rw_iload_n (pc' := 32) (z := z136339) rfl rfl ?_)
      refine wp_of e250 c250_32 (rw_if_le (p1 := 43) (p2 := 35) (by decide) rfl ⟨by omega, by omega⟩ (fun c136342 => ?_) (fun c136342 => ?_))
      · exfalso
        omega
      · refine wp_of e250 c250_35 (rw_aload_n (pc' := 36) (v := .ref r0) rfl rfl rfl ?_)
        refine wp_of e250 c250_36 (rw_iload_n (pc' := 37) (z := z136339) rfl rfl ?_)
        refine wp_of e250 c250_37 (xc_V (pc' := 40) (r := r0) (as := [vI z136339]) (st := []) (lm_9_54) rfl rfl (Nat.le_of_ble_eq_true rfl) w136333 g0 sh_42 (by decide) rfl (by decide) (s_170 w136333 g0 ⟨by omega, by omega⟩) (fun R136343 T136344 H136345 p136346 => ?_))
        obtain ⟨e136347, w136349, f136350, z136351, e136348, b136352⟩ := p136346
        subst e136347
        subst e136348
        have f136353 := f136341.tr f136350 rfl
        show wp _ _ 250 40 [(3, vI z136339), (0, .ref r0), (1, vI a1), (2, vI a2)] [vI z136351] _ H136345 _
        refine wp_of e250 c250_40 (rw_goto (p1 := 53) (by decide) ?_)
        have k136354 : wKI H136345 r0 = wKI H136329 r0 := (wKI_fr w136333 g0 f136350 rfl)
        exact wp_ireturn e250 c250_53 rfl ⟨rfl, w136349, f136353, z136351, rfl, ⟨by omega, by omega⟩, by omega⟩
    · refine wp_of e250 c250_22 (rw_iconst (pc' := 23) rfl ?_)
      refine wp_of e250 c250_23 (rw_goto (p1 := 27) (by decide) ?_)
      have k136355 : wKI H136270 r0 = wKI H r0 := (wKI_fr hW g0 ((wfr.rf (l := [(42, 0)])).put' e136271 g0 rfl) rfl)
      refine wp_of e250 c250_27 (xc_V (pc' := 30) (r := r0) (as := [vI 1]) (st := []) (lm_9_433) rfl rfl (Nat.le_of_ble_eq_true rfl) w136272 g0 sh_42 (by decide) rfl (by decide) (s_241 w136272 g0 ⟨by omega, by omega⟩ (by omega) (by omega)) (fun R136356 T136357 H136358 p136359 => ?_))
      obtain ⟨e136360, w136362, f136363, z136368, e136361, b136369, p136364, p136365, p136366, p136367⟩ := p136359
      subst e136360
      subst e136361
      have f136370 := f136273.tr f136363 rfl
      show wp _ _ 250 30 [(0, .ref r0), (1, vI a1), (2, vI a2)] [vI z136368] _ H136358 _
      refine wp_of e250 c250_30 (rw_istore_n (pc' := 31) (z := z136368) (L' := [(3, vI z136368), (0, .ref r0), (1, vI a1), (2, vI a2)]) rfl rfl rfl ?_)
      refine wp_of e250 c250_31 (rw_iload_n (pc' := 32) (z := z136368) rfl rfl ?_)
      refine wp_of e250 c250_32 (rw_if_le (p1 := 43) (p2 := 35) (by decide) rfl ⟨by omega, by omega⟩ (fun c136371 => ?_) (fun c136371 => ?_))
      · refine wp_of e250 c250_43 (rw_aload_n (pc' := 44) (v := .ref r0) rfl rfl rfl ?_)
        refine wp_of e250 c250_44 (rw_aload_n (pc' := 45) (v := .ref r0) rfl rfl rfl ?_)
        refine wp_of e250 c250_45 (rw_iload_n (pc' := 46) (z := a1) rfl rfl ?_)
        refine wp_of e250 c250_46 (rw_iload_n (pc' := 47) (z := a2) rfl rfl ?_)
        have k136372 : H136358 r0 3 = H136270 r0 3 := (f136363 r0 3 _ g0 rfl)
        obtain ⟨r136373, q136374, g136375⟩ := (w136362.opt g0 (t' := 54) (n := 33) (j := 3) (p := 0) (q := 0) rfl (by decide) rfl).resolve_left (by omega)
        refine wp_of e250 c250_47 (xc_V (pc' := 50) (r := r0) (as := [vI a1, vI a2]) (st := [.ref r0]) (lm_9_444) rfl rfl (Nat.le_of_ble_eq_true rfl) w136362 g0 sh_42 (by decide) rfl (by decide) (s_251 w136362 g0 ⟨by omega, by omega⟩ ⟨by omega, by omega⟩ q136374 g136375 (by omega)) (fun R136376 T136377 H136378 p136379 => ?_))
        obtain ⟨e136380, w136382, f136383, z136384, e136381, b136385⟩ := p136379
        subst e136380
        subst e136381
        have f136386 := f136370.tr f136383 rfl
        show wp _ _ 250 50 [(3, vI z136368), (0, .ref r0), (1, vI a1), (2, vI a2)] [vI z136384, .ref r0] _ H136378 _
        refine wp_of e250 c250_50 (xc_V (pc' := 53) (r := r0) (as := [vI z136384]) (st := []) (lm_9_58) rfl rfl (Nat.le_of_ble_eq_true rfl) w136382 g0 sh_42 (by decide) rfl (by decide) (s_209 w136382 g0 ⟨by omega, by omega⟩) (fun R136387 T136388 H136389 p136390 => ?_))
        obtain ⟨e136391, w136393, f136394, z136395, e136392, b136396⟩ := p136390
        subst e136391
        subst e136392
        have f136397 := f136386.tr f136394 rfl
        show wp _ _ 250 53 [(3, vI z136368), (0, .ref r0), (1, vI a1), (2, vI a2)] [vI z136395] _ H136389 _
        have k136398 : wKI H136389 r0 = wKI H136358 r0 := ((wKI_fr w136382 g0 f136394 rfl).trans (wKI_fr w136362 g0 f136383 rfl))
        exact wp_ireturn e250 c250_53 rfl ⟨rfl, w136393, f136397, z136395, rfl, ⟨by omega, by omega⟩, by omega⟩
      · refine wp_of e250 c250_35 (rw_aload_n (pc' := 36) (v := .ref r0) rfl rfl rfl ?_)
        refine wp_of e250 c250_36 (rw_iload_n (pc' := 37) (z := z136368) rfl rfl ?_)
        refine wp_of e250 c250_37 (xc_V (pc' := 40) (r := r0) (as := [vI z136368]) (st := []) (lm_9_54) rfl rfl (Nat.le_of_ble_eq_true rfl) w136362 g0 sh_42 (by decide) rfl (by decide) (s_170 w136362 g0 ⟨by omega, by omega⟩) (fun R136399 T136400 H136401 p136402 => ?_))
        obtain ⟨e136403, w136405, f136406, z136407, e136404, b136408⟩ := p136402
        subst e136403
        subst e136404
        have f136409 := f136370.tr f136406 rfl
        show wp _ _ 250 40 [(3, vI z136368), (0, .ref r0), (1, vI a1), (2, vI a2)] [vI z136407] _ H136401 _
        refine wp_of e250 c250_40 (rw_goto (p1 := 53) (by decide) ?_)
        have k136410 : wKI H136401 r0 = wKI H136358 r0 := (wKI_fr w136362 g0 f136406 rfl)
        exact wp_ireturn e250 c250_53 rfl ⟨rfl, w136405, f136409, z136407, rfl, ⟨by omega, by omega⟩, by omega⟩
/-! StrikeAwakeModel.refusesSome(Z)I -/
theorem e253 : wq_en 253 = some (9, 3, false, some FieldType.int) := rfl
theorem c253_0 : mc_cd 253 0 = some (.aload_n 0, 1) := by decide +kernel
theorem c253_1 : mc_cd 253 1 = some (.iload_n 1, 1) := by decide +kernel
theorem c253_2 : mc_cd 253 2 = some (.invokevirtual 433, 3) := by decide +kernel
theorem c253_5 : mc_cd 253 5 = some (.istore_n 2, 1) := by decide +kernel
theorem c253_6 : mc_cd 253 6 = some (.iload_n 2, 1) := by decide +kernel
theorem c253_7 : mc_cd 253 7 = some (.ifCond .ne 15, 3) := by decide +kernel
theorem c253_10 : mc_cd 253 10 = some (.aload_n 0, 1) := by decide +kernel
theorem c253_11 : mc_cd 253 11 = some (.getfield 422, 3) := by decide +kernel
theorem c253_14 : mc_cd 253 14 = some (.ifCond .ne 8, 3) := by decide +kernel
theorem c253_17 : mc_cd 253 17 = some (.bipush 6, 2) := by decide +kernel
theorem c253_19 : mc_cd 253 19 = some (.goto 4, 3) := by decide +kernel
theorem c253_22 : mc_cd 253 22 = some (.iload_n 2, 1) := by decide +kernel
theorem c253_23 : mc_cd 253 23 = some (.ireturn, 1) := by decide +kernel
abbrev q_253 (r0 : Nat) (a1 : Int) (T : wq_T) (H : wq_H) : Option Value → wq_T → wq_H → Prop := fun r T' H' => T = T' ∧ WT T H' ∧ wfr [(42, 28), (42, 29), (51, 999), (52, 999)] T H H' ∧ ∃ z : Int, some (vI z) = r ∧ (0 ≤ z ∧ z ≤ 6) ∧ (z ≠ 0 ∨ a1 = 1) ∧ (z ≠ 0 ∨ wLM H' r0 ≤ 20000) ∧ (wKI H' r0 = 1) ∧ (z ≠ 0 ∨ (0 < H' r0 29 ∧ 0 < wLM H' r0))
set_option maxHeartbeats 4000000 in
theorem s_253 {kt : Nat → Option mc_E} {T : wq_T} {H : wq_H} {r0 : Nat} {a1 : Int} (hW : WT T H) (g0 : T.2.2.2 r0 = some 42) (i1 : 0 ≤ a1 ∧ a1 ≤ 1) (p0 : a1 = 0 ∨ H r0 3 ≠ -1) (p1 : wKI H r0 = 1) : wpc kt 8 253 [.ref r0, vI a1] T H (q_253 r0 a1 T H) := by
  refine wp_enter e253 (Nat.le_of_ble_eq_true rfl) rfl ?_
  have f0 : wfr [(42, 28), (42, 29), (51, 999), (52, 999)] T H H := wfr.rf
  show wp _ _ 253 0 [(0, .ref r0), (1, vI a1)] [] _ H _
  refine wp_of e253 c253_0 (rw_aload_n (pc' := 1) (v := .ref r0) rfl rfl rfl ?_)
  refine wp_of e253 c253_1 (rw_iload_n (pc' := 2) (z := a1) rfl rfl ?_)
  refine wp_of e253 c253_2 (xc_V (pc' := 5) (r := r0) (as := [vI a1]) (st := []) (lm_9_433) rfl rfl (Nat.le_of_ble_eq_true rfl) hW g0 sh_42 (by decide) rfl (by decide) (s_241 hW g0 ⟨by omega, by omega⟩ (by omega) (by omega)) (fun R136430 T136431 H136432 p136433 => ?_))
  obtain ⟨e136434, w136436, f136437, z136442, e136435, b136443, p136438, p136439, p136440, p136441⟩ := p136433
  subst e136434
  subst e136435
  have f136444 := f0.tr f136437 rfl
  show wp _ _ 253 5 [(0, .ref r0), (1, vI a1)] [vI z136442] _ H136432 _
  refine wp_of e253 c253_5 (rw_istore_n (pc' := 6) (z := z136442) (L' := [(2, vI z136442), (0, .ref r0), (1, vI a1)]) rfl rfl rfl ?_)
  refine wp_of e253 c253_6 (rw_iload_n (pc' := 7) (z := z136442) rfl rfl ?_)
  refine wp_of e253 c253_7 (rw_if_ne (p1 := 22) (p2 := 10) (by decide) rfl ⟨by omega, by omega⟩ (fun c136445 => ?_) (fun c136445 => ?_))
  · refine wp_of e253 c253_22 (rw_iload_n (pc' := 23) (z := z136442) rfl rfl ?_)
    exact wp_ireturn e253 c253_23 rfl ⟨rfl, w136436, f136444, z136442, rfl, ⟨by omega, by omega⟩, by omega, by omega, by omega, by omega⟩
  · refine wp_of e253 c253_10 (rw_aload_n (pc' := 11) (v := .ref r0) rfl rfl rfl ?_)
    refine wp_of e253 c253_11 (xg_I (pc' := 14) lf_9_422 w136436 g0 sh_42 (by decide) (by decide) ty_42_29 rfl rfl (fun b136446 b136447 => ?_))
    refine wp_of e253 c253_14 (rw_if_ne (p1 := 22) (p2 := 17) (by decide) rfl ⟨by omega, by omega⟩ (fun c136448 => ?_) (fun c136448 => ?_))
    · refine wp_of e253 c253_22 (rw_iload_n (pc' := 23) (z := z136442) rfl rfl ?_)
      exact wp_ireturn e253 c253_23 rfl ⟨rfl, w136436, f136444, z136442, rfl, ⟨by omega, by omega⟩, by omega, by omega, by omega, by omega⟩
    · refine wp_of e253 c253_17 (rw_bipush (pc' := 19) (z := 6) rfl (by decide) ?_)
      refine wp_of e253 c253_19 (rw_goto (p1 := 23) (by decide) ?_)
      exact wp_ireturn e253 c253_23 rfl ⟨rfl, w136436, f136444, 6, rfl, ⟨by omega, by omega⟩, by omega, by omega, by omega, by omega⟩
/-! StrikeAwakeModel.sure(II)I -/
theorem e252 : wq_en 252 = some (9, 5, false, some FieldType.int) := rfl
theorem c252_0 : mc_cd 252 0 = some (.aload_n 0, 1) := by decide +kernel
theorem c252_1 : mc_cd 252 1 = some (.iconst 0, 1) := by decide +kernel
theorem c252_2 : mc_cd 252 2 = some (.putfield 48, 3) := by decide +kernel
theorem c252_5 : mc_cd 252 5 = some (.aload_n 0, 1) := by decide +kernel
theorem c252_6 : mc_cd 252 6 = some (.aload_n 0, 1) := by decide +kernel
theorem c252_7 : mc_cd 252 7 = some (.iload_n 1, 1) := by decide +kernel
theorem c252_8 : mc_cd 252 8 = some (.invokevirtual 364, 3) := by decide +kernel
theorem c252_11 : mc_cd 252 11 = some (.ifCond .eq 15, 3) := by decide +kernel
theorem c252_14 : mc_cd 252 14 = some (.aload_n 0, 1) := by decide +kernel
theorem c252_15 : mc_cd 252 15 = some (.iload_n 2, 1) := by decide +kernel
theorem c252_16 : mc_cd 252 16 = some (.invokevirtual 373, 3) := by decide +kernel
theorem c252_19 : mc_cd 252 19 = some (.ifCond .eq 7, 3) := by decide +kernel
theorem c252_22 : mc_cd 252 22 = some (.iconst 1, 1) := by decide +kernel
theorem c252_23 : mc_cd 252 23 = some (.goto 4, 3) := by decide +kernel
theorem c252_26 : mc_cd 252 26 = some (.iconst 0, 1) := by decide +kernel
theorem c252_27 : mc_cd 252 27 = some (.invokevirtual 447, 3) := by decide +kernel
theorem c252_30 : mc_cd 252 30 = some (.istore_n 3, 1) := by decide +kernel
theorem c252_31 : mc_cd 252 31 = some (.iload_n 3, 1) := by decide +kernel
theorem c252_32 : mc_cd 252 32 = some (.ifCond .le 9, 3) := by decide +kernel
theorem c252_35 : mc_cd 252 35 = some (.aload_n 0, 1) := by decide +kernel
theorem c252_36 : mc_cd 252 36 = some (.iload_n 3, 1) := by decide +kernel
theorem c252_37 : mc_cd 252 37 = some (.invokevirtual 54, 3) := by decide +kernel
theorem c252_40 : mc_cd 252 40 = some (.ireturn, 1) := by decide +kernel
theorem c252_41 : mc_cd 252 41 = some (.aload_n 0, 1) := by decide +kernel
theorem c252_42 : mc_cd 252 42 = some (.iload_n 1, 1) := by decide +kernel
theorem c252_43 : mc_cd 252 43 = some (.iload_n 2, 1) := by decide +kernel
theorem c252_44 : mc_cd 252 44 = some (.invokevirtual 444, 3) := by decide +kernel
theorem c252_47 : mc_cd 252 47 = some (.istore 4, 2) := by decide +kernel
theorem c252_49 : mc_cd 252 49 = some (.aload_n 0, 1) := by decide +kernel
theorem c252_50 : mc_cd 252 50 = some (.iload 4, 2) := by decide +kernel
theorem c252_52 : mc_cd 252 52 = some (.aload_n 0, 1) := by decide +kernel
theorem c252_53 : mc_cd 252 53 = some (.getfield 422, 3) := by decide +kernel
theorem c252_56 : mc_cd 252 56 = some (.if_icmp .ne 7, 3) := by decide +kernel
theorem c252_59 : mc_cd 252 59 = some (.iconst 2, 1) := by decide +kernel
theorem c252_60 : mc_cd 252 60 = some (.goto 13, 3) := by decide +kernel
theorem c252_63 : mc_cd 252 63 = some (.iload 4, 2) := by decide +kernel
theorem c252_65 : mc_cd 252 65 = some (.ifCond .ne 7, 3) := by decide +kernel
theorem c252_68 : mc_cd 252 68 = some (.iconst 0, 1) := by decide +kernel
theorem c252_69 : mc_cd 252 69 = some (.goto 4, 3) := by decide +kernel
theorem c252_72 : mc_cd 252 72 = some (.iconst 1, 1) := by decide +kernel
theorem c252_73 : mc_cd 252 73 = some (.invokevirtual 58, 3) := by decide +kernel
theorem c252_76 : mc_cd 252 76 = some (.ireturn, 1) := by decide +kernel
abbrev q_252 (r0 : Nat) (a1 : Int) (a2 : Int) (T : wq_T) (H : wq_H) : Option Value → wq_T → wq_H → Prop := fun r T' H' => T = T' ∧ WT T H' ∧ wfr [(42, 0), (42, 1), (42, 2), (42, 28), (42, 29), (51, 999), (52, 999)] T H H' ∧ ∃ z : Int, some (vI z) = r ∧ ((-2147483648) ≤ z ∧ z ≤ 2147483647) ∧ (wKI H' r0 = 1)
set_option maxHeartbeats 4000000 in
theorem s_252 {kt : Nat → Option mc_E} {T : wq_T} {H : wq_H} {r0 : Nat} {a1 : Int} {a2 : Int} (hW : WT T H) (g0 : T.2.2.2 r0 = some 42) (i1 : (-2147483648) ≤ a1 ∧ a1 ≤ 2147483647) (i2 : (-2147483648) ≤ a2 ∧ a2 ≤ 2147483647) (p0 : wKI H r0 = 1) : wpc kt 9 252 [.ref r0, vI a1, vI a2] T H (q_252 r0 a1 a2 T H) := by
  refine wp_enter e252 (Nat.le_of_ble_eq_true rfl) rfl ?_
  have f0 : wfr [(42, 0), (42, 1), (42, 2), (42, 28), (42, 29), (51, 999), (52, 999)] T H H := wfr.rf
  show wp _ _ 252 0 [(0, .ref r0), (1, vI a1), (2, vI a2)] [] _ H _
  refine wp_of e252 c252_0 (rw_aload_n (pc' := 1) (v := .ref r0) rfl rfl rfl ?_)
  refine wp_of e252 c252_1 (rw_iconst (pc' := 2) rfl ?_)
  refine wp_of e252 c252_2 (xp_I (pc' := 5) lf_9_48 hW g0 sh_42 (by decide) (by decide) ty_42_0 rfl rfl (by omega) (by omega) ⟨by omega, by omega⟩ rfl (fun H136619 e136620 w136621 => ?_))
  have f136622 := f0.put' e136620 g0 rfl
  have k136623 : H136619 r0 0 = 0 := wq_u_s e136620
  refine wp_of e252 c252_5 (rw_aload_n (pc' := 6) (v := .ref r0) rfl rfl rfl ?_)
  refine wp_of e252 c252_6 (rw_aload_n (pc' := 7) (v := .ref r0) rfl rfl rfl ?_)
  refine wp_of e252 c252_7 (rw_iload_n (pc' := 8) (z := a1) rfl rfl ?_)
  refine wp_of e252 c252_8 (xc_V (pc' := 11) (r := r0) (as := [vI a1]) (st := [.ref r0]) (lm_9_364) rfl rfl (Nat.le_of_ble_eq_true rfl) w136621 g0 sh_42 (by decide) rfl (by decide) (s_213 w136621 g0 ⟨by omega, by omega⟩) (fun R136624 T136625 H136626 p136627 => ?_))
  obtain ⟨e136628, e136630, z136632, e136629, b136633, p136631⟩ := p136627
  subst e136628
  subst e136629
  subst e136630
  show wp _ _ 252 11 [(0, .ref r0), (1, vI a1), (2, vI a2)] [vI z136632, .ref r0] _ H136619 _
  refine wp_of e252 c252_11 (rw_if_eq (p1 := 26) (p2 := 14) (by decide) rfl ⟨by omega, by omega⟩ (fun c136634 => ?_) (fun c136634 => ?_))
  · refine wp_of e252 c252_26 (rw_iconst (pc' := 27) rfl ?_)
    have k136635 : wKI H136619 r0 = wKI H r0 := (wKI_fr hW g0 ((wfr.rf (l := [(42, 0)])).put' e136620 g0 rfl) rfl)
    refine wp_of e252 c252_27 (xc_V (pc' := 30) (r := r0) (as := [vI 0]) (st := []) (lm_9_447) rfl rfl (Nat.le_of_ble_eq_true rfl) w136621 g0 sh_42 (by decide) rfl (by decide) (s_253 w136621 g0 ⟨by omega, by omega⟩ (by omega) (by omega)) (fun R136636 T136637 H136638 p136639 => ?_))
    obtain ⟨e136640, w136642, f136643, z136648, e136641, b136649, p136644, p136645, p136646, p136647⟩ := p136639
    subst e136640
    subst e136641
    have f136650 := f136622.tr f136643 rfl
    show wp _ _ 252 30 [(0, .ref r0), (1, vI a1), (2, vI a2)] [vI z136648] _ H136638 _
    refine wp_of e252 c252_30 (rw_istore_n (pc' := 31) (z := z136648) (L' := [(3, vI z136648), (0, .ref r0), (1, vI a1), (2, vI a2)]) rfl rfl rfl ?_)
    refine wp_of e252 c252_31 (rw_iload_n (pc' := 32) (z := z136648) rfl rfl ?_)
    refine wp_of e252 c252_32 (rw_if_le (p1 := 41) (p2 := 35) (by decide) rfl ⟨by omega, by omega⟩ (fun c136651 => ?_) (fun c136651 => ?_))
    · exfalso
      omega
    · refine wp_of e252 c252_35 (rw_aload_n (pc' := 36) (v := .ref r0) rfl rfl rfl ?_)
      refine wp_of e252 c252_36 (rw_iload_n (pc' := 37) (z := z136648) rfl rfl ?_)
      refine wp_of e252 c252_37 (xc_V (pc' := 40) (r := r0) (as := [vI z136648]) (st := []) (lm_9_54) rfl rfl (Nat.le_of_ble_eq_true rfl) w136642 g0 sh_42 (by decide) rfl (by decide) (s_170 w136642 g0 ⟨by omega, by omega⟩) (fun R136652 T136653 H136654 p136655 => ?_))
      obtain ⟨e136656, w136658, f136659, z136660, e136657, b136661⟩ := p136655
      subst e136656
      subst e136657
      have f136662 := f136650.tr f136659 rfl
      show wp _ _ 252 40 [(3, vI z136648), (0, .ref r0), (1, vI a1), (2, vI a2)] [vI z136660] _ H136654 _
      have k136663 : wKI H136654 r0 = wKI H136638 r0 := (wKI_fr w136642 g0 f136659 rfl)
      exact wp_ireturn e252 c252_40 rfl ⟨rfl, w136658, f136662, z136660, rfl, ⟨by omega, by omega⟩, by omega⟩
  · refine wp_of e252 c252_14 (rw_aload_n (pc' := 15) (v := .ref r0) rfl rfl rfl ?_)
    refine wp_of e252 c252_15 (rw_iload_n (pc' := 16) (z := a2) rfl rfl ?_)
    refine wp_of e252 c252_16 (xc_V (pc' := 19) (r := r0) (as := [vI a2]) (st := [.ref r0]) (lm_9_373) rfl rfl (Nat.le_of_ble_eq_true rfl) w136621 g0 sh_42 (by decide) rfl (by decide) (s_218 w136621 g0 ⟨by omega, by omega⟩) (fun R136664 T136665 H136666 p136667 => ?_))
    obtain ⟨e136668, e136670, z136672, e136669, b136673, p136671⟩ := p136667
    subst e136668
    subst e136669
    subst e136670
    show wp _ _ 252 19 [(0, .ref r0), (1, vI a1), (2, vI a2)] [vI z136672, .ref r0] _ H136619 _
    refine wp_of e252 c252_19 (rw_if_eq (p1 := 26) (p2 := 22) (by decide) rfl ⟨by omega, by omega⟩ (fun c136674 => ?_) (fun c136674 => ?_))
    · refine wp_of e252 c252_26 (rw_iconst (pc' := 27) rfl ?_)
      have k136675 : wKI H136619 r0 = wKI H r0 := (wKI_fr hW g0 ((wfr.rf (l := [(42, 0)])).put' e136620 g0 rfl) rfl)
      refine wp_of e252 c252_27 (xc_V (pc' := 30) (r := r0) (as := [vI 0]) (st := []) (lm_9_447) rfl rfl (Nat.le_of_ble_eq_true rfl) w136621 g0 sh_42 (by decide) rfl (by decide) (s_253 w136621 g0 ⟨by omega, by omega⟩ (by omega) (by omega)) (fun R136676 T136677 H136678 p136679 => ?_))
      obtain ⟨e136680, w136682, f136683, z136688, e136681, b136689, p136684, p136685, p136686, p136687⟩ := p136679
      subst e136680
      subst e136681
      have f136690 := f136622.tr f136683 rfl
      show wp _ _ 252 30 [(0, .ref r0), (1, vI a1), (2, vI a2)] [vI z136688] _ H136678 _
      refine wp_of e252 c252_30 (rw_istore_n (pc' := 31) (z := z136688) (L' := [(3, vI z136688), (0, .ref r0), (1, vI a1), (2, vI a2)]) rfl rfl rfl ?_)
      refine wp_of e252 c252_31 (rw_iload_n (pc' := 32) (z := z136688) rfl rfl ?_)
      refine wp_of e252 c252_32 (rw_if_le (p1 := 41) (p2 := 35) (by decide) rfl ⟨by omega, by omega⟩ (fun c136691 => ?_) (fun c136691 => ?_))
      · exfalso
        omega
      · refine wp_of e252 c252_35 (rw_aload_n (pc' := 36) (v := .ref r0) rfl rfl rfl ?_)
        refine wp_of e252 c252_36 (rw_iload_n (pc' := 37) (z := z136688) rfl rfl ?_)
        refine wp_of e252 c252_37 (xc_V (pc' := 40) (r := r0) (as := [vI z136688]) (st := []) (lm_9_54) rfl rfl (Nat.le_of_ble_eq_true rfl) w136682 g0 sh_42 (by decide) rfl (by decide) (s_170 w136682 g0 ⟨by omega, by omega⟩) (fun R136692 T136693 H136694 p136695 => ?_))
        obtain ⟨e136696, w136698, f136699, z136700, e136697, b136701⟩ := p136695
        subst e136696
        subst e136697
        have f136702 := f136690.tr f136699 rfl
        show wp _ _ 252 40 [(3, vI z136688), (0, .ref r0), (1, vI a1), (2, vI a2)] [vI z136700] _ H136694 _
        have k136703 : wKI H136694 r0 = wKI H136678 r0 := (wKI_fr w136682 g0 f136699 rfl)
        exact wp_ireturn e252 c252_40 rfl ⟨rfl, w136698, f136702, z136700, rfl, ⟨by omega, by omega⟩, by omega⟩
    · refine wp_of e252 c252_22 (rw_iconst (pc' := 23) rfl ?_)
      refine wp_of e252 c252_23 (rw_goto (p1 := 27) (by decide) ?_)
      have k136704 : wKI H136619 r0 = wKI H r0 := (wKI_fr hW g0 ((wfr.rf (l := [(42, 0)])).put' e136620 g0 rfl) rfl)
      refine wp_of e252 c252_27 (xc_V (pc' := 30) (r := r0) (as := [vI 1]) (st := []) (lm_9_447) rfl rfl (Nat.le_of_ble_eq_true rfl) w136621 g0 sh_42 (by decide) rfl (by decide) (s_253 w136621 g0 ⟨by omega, by omega⟩ (by omega) (by omega)) (fun R136705 T136706 H136707 p136708 => ?_))
      obtain ⟨e136709, w136711, f136712, z136717, e136710, b136718, p136713, p136714, p136715, p136716⟩ := p136708
      subst e136709
      subst e136710
      have f136719 := f136622.tr f136712 rfl
      show wp _ _ 252 30 [(0, .ref r0), (1, vI a1), (2, vI a2)] [vI z136717] _ H136707 _
      refine wp_of e252 c252_30 (rw_istore_n (pc' := 31) (z := z136717) (L' := [(3, vI z136717), (0, .ref r0), (1, vI a1), (2, vI a2)]) rfl rfl rfl ?_)
      refine wp_of e252 c252_31 (rw_iload_n (pc' := 32) (z := z136717) rfl rfl ?_)
      refine wp_of e252 c252_32 (rw_if_le (p1 := 41) (p2 := 35) (by decide) rfl ⟨by omega, by omega⟩ (fun c136720 => ?_) (fun c136720 => ?_))
      · refine wp_of e252 c252_41 (rw_aload_n (pc' := 42) (v := .ref r0) rfl rfl rfl ?_)
        refine wp_of e252 c252_42 (rw_iload_n (pc' := 43) (z := a1) rfl rfl ?_)
        refine wp_of e252 c252_43 (rw_iload_n (pc' := 44) (z := a2) rfl rfl ?_)
        have k136721 : H136707 r0 3 = H136619 r0 3 := (f136712 r0 3 _ g0 rfl)
        obtain ⟨r136722, q136723, g136724⟩ := (w136711.opt g0 (t' := 54) (n := 33) (j := 3) (p := 0) (q := 0) rfl (by decide) rfl).resolve_left (by omega)
        refine wp_of e252 c252_44 (xc_V (pc' := 47) (r := r0) (as := [vI a1, vI a2]) (st := []) (lm_9_444) rfl rfl (Nat.le_of_ble_eq_true rfl) w136711 g0 sh_42 (by decide) rfl (by decide) (s_251 w136711 g0 ⟨by omega, by omega⟩ ⟨by omega, by omega⟩ q136723 g136724 (by omega)) (fun R136725 T136726 H136727 p136728 => ?_))
        obtain ⟨e136729, w136731, f136732, z136733, e136730, b136734⟩ := p136728
        subst e136729
        subst e136730
        have f136735 := f136719.tr f136732 rfl
        show wp _ _ 252 47 [(3, vI z136717), (0, .ref r0), (1, vI a1), (2, vI a2)] [vI z136733] _ H136727 _
        refine wp_of e252 c252_47 (rw_istore (pc' := 49) (z := z136733) (L' := [(4, vI z136733), (3, vI z136717), (0, .ref r0), (1, vI a1), (2, vI a2)]) rfl rfl rfl ?_)
        refine wp_of e252 c252_49 (rw_aload_n (pc' := 50) (v := .ref r0) rfl rfl rfl ?_)
        refine wp_of e252 c252_50 (rw_iload (pc' := 52) (z := z136733) rfl rfl ?_)
        refine wp_of e252 c252_52 (rw_aload_n (pc' := 53) (v := .ref r0) rfl rfl rfl ?_)
        have k136736 : H136727 r0 29 = H136707 r0 29 := (f136732 r0 29 _ g0 rfl)
        refine wp_of e252 c252_53 (xg_I (pc' := 56) lf_9_422 w136731 g0 sh_42 (by decide) (by decide) ty_42_29 rfl rfl (fun b136737 b136738 => ?_))
        refine wp_of e252 c252_56 (rw_icmp_ne (p1 := 63) (p2 := 59) (by decide) rfl ⟨by omega, by omega⟩ ⟨by omega, by omega⟩ (fun c136739 => ?_) (fun c136739 => ?_))
        · refine wp_of e252 c252_63 (rw_iload (pc' := 65) (z := z136733) rfl rfl ?_)
          refine wp_of e252 c252_65 (rw_if_ne (p1 := 72) (p2 := 68) (by decide) rfl ⟨by omega, by omega⟩ (fun c136740 => ?_) (fun c136740 => ?_))
          · refine wp_of e252 c252_72 (rw_iconst (pc' := 73) rfl ?_)
            refine wp_of e252 c252_73 (xc_V (pc' := 76) (r := r0) (as := [vI 1]) (st := []) (lm_9_58) rfl rfl (Nat.le_of_ble_eq_true rfl) w136731 g0 sh_42 (by decide) rfl (by decide) (s_209 w136731 g0 ⟨by omega, by omega⟩) (fun R136741 T136742 H136743 p136744 => ?_))
            obtain ⟨e136745, w136747, f136748, z136749, e136746, b136750⟩ := p136744
            subst e136745
            subst e136746
            have f136751 := f136735.tr f136748 rfl
            show wp _ _ 252 76 [(4, vI z136733), (3, vI z136717), (0, .ref r0), (1, vI a1), (2, vI a2)] [vI z136749] _ H136743 _
            have k136752 : wKI H136743 r0 = wKI H136707 r0 := ((wKI_fr w136731 g0 f136748 rfl).trans (wKI_fr w136711 g0 f136732 rfl))
            exact wp_ireturn e252 c252_76 rfl ⟨rfl, w136747, f136751, z136749, rfl, ⟨by omega, by omega⟩, by omega⟩
          · refine wp_of e252 c252_68 (rw_iconst (pc' := 69) rfl ?_)
            refine wp_of e252 c252_69 (rw_goto (p1 := 73) (by decide) ?_)
            refine wp_of e252 c252_73 (xc_V (pc' := 76) (r := r0) (as := [vI 0]) (st := []) (lm_9_58) rfl rfl (Nat.le_of_ble_eq_true rfl) w136731 g0 sh_42 (by decide) rfl (by decide) (s_209 w136731 g0 ⟨by omega, by omega⟩) (fun R136753 T136754 H136755 p136756 => ?_))
            obtain ⟨e136757, w136759, f136760, z136761, e136758, b136762⟩ := p136756
            subst e136757
            subst e136758
            have f136763 := f136735.tr f136760 rfl
            show wp _ _ 252 76 [(4, vI z136733), (3, vI z136717), (0, .ref r0), (1, vI a1), (2, vI a2)] [vI z136761] _ H136755 _
            have k136764 : wKI H136755 r0 = wKI H136707 r0 := ((wKI_fr w136731 g0 f136760 rfl).trans (wKI_fr w136711 g0 f136732 rfl))
            exact wp_ireturn e252 c252_76 rfl ⟨rfl, w136759, f136763, z136761, rfl, ⟨by omega, by omega⟩, by omega⟩
        · refine wp_of e252 c252_59 (rw_iconst (pc' := 60) rfl ?_)
          refine wp_of e252 c252_60 (rw_goto (p1 := 73) (by decide) ?_)
          refine wp_of e252 c252_73 (xc_V (pc' := 76) (r := r0) (as := [vI 2]) (st := []) (lm_9_58) rfl rfl (Nat.le_of_ble_eq_true rfl) w136731 g0 sh_42 (by decide) rfl (by decide) (s_209 w136731 g0 ⟨by omega, by omega⟩) (fun R136765 T136766 H136767 p136768 => ?_))
          obtain ⟨e136769, w136771, f136772, z136773, e136770, b136774⟩ := p136768
          subst e136769
          subst e136770
          have f136775 := f136735.tr f136772 rfl
          show wp _ _ 252 76 [(4, vI z136733), (3, vI z136717), (0, .ref r0), (1, vI a1), (2, vI a2)] [vI z136773] _ H136767 _
          have k136776 : wKI H136767 r0 = wKI H136707 r0 := ((wKI_fr w136731 g0 f136772 rfl).trans (wKI_fr w136711 g0 f136732 rfl))
          exact wp_ireturn e252 c252_76 rfl ⟨rfl, w136771, f136775, z136773, rfl, ⟨by omega, by omega⟩, by omega⟩
      · refine wp_of e252 c252_35 (rw_aload_n (pc' := 36) (v := .ref r0) rfl rfl rfl ?_)
        refine wp_of e252 c252_36 (rw_iload_n (pc' := 37) (z := z136717) rfl rfl ?_)
        refine wp_of e252 c252_37 (xc_V (pc' := 40) (r := r0) (as := [vI z136717]) (st := []) (lm_9_54) rfl rfl (Nat.le_of_ble_eq_true rfl) w136711 g0 sh_42 (by decide) rfl (by decide) (s_170 w136711 g0 ⟨by omega, by omega⟩) (fun R136777 T136778 H136779 p136780 => ?_))
        obtain ⟨e136781, w136783, f136784, z136785, e136782, b136786⟩ := p136780
        subst e136781
        subst e136782
        have f136787 := f136719.tr f136784 rfl
        show wp _ _ 252 40 [(3, vI z136717), (0, .ref r0), (1, vI a1), (2, vI a2)] [vI z136785] _ H136779 _
        have k136788 : wKI H136779 r0 = wKI H136707 r0 := (wKI_fr w136711 g0 f136784 rfl)
        exact wp_ireturn e252 c252_40 rfl ⟨rfl, w136783, f136787, z136785, rfl, ⟨by omega, by omega⟩, by omega⟩
/-! StrikeAwakeModel.surely(IZ)I -/
theorem e254 : wq_en 254 = some (9, 6, false, some FieldType.int) := rfl
theorem c254_0 : mc_cd 254 0 = some (.aload_n 0, 1) := by decide +kernel
theorem c254_1 : mc_cd 254 1 = some (.iconst 0, 1) := by decide +kernel
theorem c254_2 : mc_cd 254 2 = some (.putfield 48, 3) := by decide +kernel
theorem c254_5 : mc_cd 254 5 = some (.aload_n 0, 1) := by decide +kernel
theorem c254_6 : mc_cd 254 6 = some (.aload_n 0, 1) := by decide +kernel
theorem c254_7 : mc_cd 254 7 = some (.iload_n 1, 1) := by decide +kernel
theorem c254_8 : mc_cd 254 8 = some (.invokevirtual 373, 3) := by decide +kernel
theorem c254_11 : mc_cd 254 11 = some (.invokevirtual 447, 3) := by decide +kernel
theorem c254_14 : mc_cd 254 14 = some (.istore_n 3, 1) := by decide +kernel
theorem c254_15 : mc_cd 254 15 = some (.iload_n 3, 1) := by decide +kernel
theorem c254_16 : mc_cd 254 16 = some (.ifCond .le 9, 3) := by decide +kernel
theorem c254_19 : mc_cd 254 19 = some (.aload_n 0, 1) := by decide +kernel
theorem c254_20 : mc_cd 254 20 = some (.iload_n 3, 1) := by decide +kernel
theorem c254_21 : mc_cd 254 21 = some (.invokevirtual 54, 3) := by decide +kernel
theorem c254_24 : mc_cd 254 24 = some (.ireturn, 1) := by decide +kernel
theorem c254_25 : mc_cd 254 25 = some (.iconst 0, 1) := by decide +kernel
theorem c254_26 : mc_cd 254 26 = some (.istore 4, 2) := by decide +kernel
theorem c254_28 : mc_cd 254 28 = some (.iconst 0, 1) := by decide +kernel
theorem c254_29 : mc_cd 254 29 = some (.istore 5, 2) := by decide +kernel
theorem c254_31 : mc_cd 254 31 = some (.iload 5, 2) := by decide +kernel
theorem c254_33 : mc_cd 254 33 = some (.aload_n 0, 1) := by decide +kernel
theorem c254_34 : mc_cd 254 34 = some (.getfield 337, 3) := by decide +kernel
theorem c254_37 : mc_cd 254 37 = some (.getfield 188, 3) := by decide +kernel
theorem c254_40 : mc_cd 254 40 = some (.if_icmp .ge 44, 3) := by decide +kernel
theorem c254_43 : mc_cd 254 43 = some (.iload 4, 2) := by decide +kernel
theorem c254_45 : mc_cd 254 45 = some (.aload_n 0, 1) := by decide +kernel
theorem c254_46 : mc_cd 254 46 = some (.iload 5, 2) := by decide +kernel
theorem c254_48 : mc_cd 254 48 = some (.iload_n 1, 1) := by decide +kernel
theorem c254_49 : mc_cd 254 49 = some (.invokevirtual 444, 3) := by decide +kernel
theorem c254_52 : mc_cd 254 52 = some (.iload_n 2, 1) := by decide +kernel
theorem c254_53 : mc_cd 254 53 = some (.ifCond .eq 10, 3) := by decide +kernel
theorem c254_56 : mc_cd 254 56 = some (.aload_n 0, 1) := by decide +kernel
theorem c254_57 : mc_cd 254 57 = some (.getfield 422, 3) := by decide +kernel
theorem c254_60 : mc_cd 254 60 = some (.goto 4, 3) := by decide +kernel
theorem c254_63 : mc_cd 254 63 = some (.iconst 0, 1) := by decide +kernel
theorem c254_64 : mc_cd 254 64 = some (.if_icmp .ne 10, 3) := by decide +kernel
theorem c254_67 : mc_cd 254 67 = some (.iconst 1, 1) := by decide +kernel
theorem c254_68 : mc_cd 254 68 = some (.iload 5, 2) := by decide +kernel
theorem c254_70 : mc_cd 254 70 = some (.ishl, 1) := by decide +kernel
theorem c254_71 : mc_cd 254 71 = some (.goto 4, 3) := by decide +kernel
theorem c254_74 : mc_cd 254 74 = some (.iconst 0, 1) := by decide +kernel
theorem c254_75 : mc_cd 254 75 = some (.ior, 1) := by decide +kernel
theorem c254_76 : mc_cd 254 76 = some (.istore 4, 2) := by decide +kernel
theorem c254_78 : mc_cd 254 78 = some (.iinc 5 1, 3) := by decide +kernel
theorem c254_81 : mc_cd 254 81 = some (.goto (-50), 3) := by decide +kernel
theorem c254_84 : mc_cd 254 84 = some (.aload_n 0, 1) := by decide +kernel
theorem c254_85 : mc_cd 254 85 = some (.iload 4, 2) := by decide +kernel
theorem c254_87 : mc_cd 254 87 = some (.invokevirtual 58, 3) := by decide +kernel
theorem c254_90 : mc_cd 254 90 = some (.ireturn, 1) := by decide +kernel
abbrev q_254 (r0 : Nat) (a1 : Int) (a2 : Int) (T : wq_T) (H : wq_H) : Option Value → wq_T → wq_H → Prop := fun r T' H' => T = T' ∧ WT T H' ∧ wfr [(42, 0), (42, 1), (42, 2), (42, 28), (42, 29), (51, 999), (52, 999)] T H H' ∧ ∃ z : Int, some (vI z) = r ∧ ((-2147483648) ≤ z ∧ z ≤ 2147483647) ∧ (wKI H' r0 = 1)
set_option maxHeartbeats 4000000 in
theorem s_254 {kt : Nat → Option mc_E} {T : wq_T} {H : wq_H} {r0 : Nat} {a1 : Int} {a2 : Int} (hW : WT T H) (g0 : T.2.2.2 r0 = some 42) (i1 : (-2147483648) ≤ a1 ∧ a1 ≤ 2147483647) (i2 : 0 ≤ a2 ∧ a2 ≤ 1) (p0 : wKI H r0 = 1) : wpc kt 9 254 [.ref r0, vI a1, vI a2] T H (q_254 r0 a1 a2 T H) := by
  refine wp_enter e254 (Nat.le_of_ble_eq_true rfl) rfl ?_
  have f0 : wfr [(42, 0), (42, 1), (42, 2), (42, 28), (42, 29), (51, 999), (52, 999)] T H H := wfr.rf
  show wp _ _ 254 0 [(0, .ref r0), (1, vI a1), (2, vI a2)] [] _ H _
  refine wp_of e254 c254_0 (rw_aload_n (pc' := 1) (v := .ref r0) rfl rfl rfl ?_)
  refine wp_of e254 c254_1 (rw_iconst (pc' := 2) rfl ?_)
  refine wp_of e254 c254_2 (xp_I (pc' := 5) lf_9_48 hW g0 sh_42 (by decide) (by decide) ty_42_0 rfl rfl (by omega) (by omega) ⟨by omega, by omega⟩ rfl (fun H137150 e137151 w137152 => ?_))
  have f137153 := f0.put' e137151 g0 rfl
  have k137154 : H137150 r0 0 = 0 := wq_u_s e137151
  refine wp_of e254 c254_5 (rw_aload_n (pc' := 6) (v := .ref r0) rfl rfl rfl ?_)
  refine wp_of e254 c254_6 (rw_aload_n (pc' := 7) (v := .ref r0) rfl rfl rfl ?_)
  refine wp_of e254 c254_7 (rw_iload_n (pc' := 8) (z := a1) rfl rfl ?_)
  refine wp_of e254 c254_8 (xc_V (pc' := 11) (r := r0) (as := [vI a1]) (st := [.ref r0]) (lm_9_373) rfl rfl (Nat.le_of_ble_eq_true rfl) w137152 g0 sh_42 (by decide) rfl (by decide) (s_218 w137152 g0 ⟨by omega, by omega⟩) (fun R137155 T137156 H137157 p137158 => ?_))
  obtain ⟨e137159, e137161, z137163, e137160, b137164, p137162⟩ := p137158
  subst e137159
  subst e137160
  subst e137161
  show wp _ _ 254 11 [(0, .ref r0), (1, vI a1), (2, vI a2)] [vI z137163, .ref r0] _ H137150 _
  have k137165 : wKI H137150 r0 = wKI H r0 := (wKI_fr hW g0 ((wfr.rf (l := [(42, 0)])).put' e137151 g0 rfl) rfl)
  refine wp_of e254 c254_11 (xc_V (pc' := 14) (r := r0) (as := [vI z137163]) (st := []) (lm_9_447) rfl rfl (Nat.le_of_ble_eq_true rfl) w137152 g0 sh_42 (by decide) rfl (by decide) (s_253 w137152 g0 ⟨by omega, by omega⟩ (by omega) (by omega)) (fun R137166 T137167 H137168 p137169 => ?_))
  obtain ⟨e137170, w137172, f137173, z137178, e137171, b137179, p137174, p137175, p137176, p137177⟩ := p137169
  subst e137170
  subst e137171
  have f137180 := f137153.tr f137173 rfl
  show wp _ _ 254 14 [(0, .ref r0), (1, vI a1), (2, vI a2)] [vI z137178] _ H137168 _
  refine wp_of e254 c254_14 (rw_istore_n (pc' := 15) (z := z137178) (L' := [(3, vI z137178), (0, .ref r0), (1, vI a1), (2, vI a2)]) rfl rfl rfl ?_)
  refine wp_of e254 c254_15 (rw_iload_n (pc' := 16) (z := z137178) rfl rfl ?_)
  refine wp_of e254 c254_16 (rw_if_le (p1 := 25) (p2 := 19) (by decide) rfl ⟨by omega, by omega⟩ (fun c137181 => ?_) (fun c137181 => ?_))
  · refine wp_of e254 c254_25 (rw_iconst (pc' := 26) rfl ?_)
    refine wp_of e254 c254_26 (rw_istore (pc' := 28) (z := 0) (L' := [(4, vI 0), (3, vI z137178), (0, .ref r0), (1, vI a1), (2, vI a2)]) rfl rfl rfl ?_)
    refine wp_of e254 c254_28 (rw_iconst (pc' := 29) rfl ?_)
    refine wp_of e254 c254_29 (rw_istore (pc' := 31) (z := 0) (L' := [(5, vI 0), (4, vI 0), (3, vI z137178), (0, .ref r0), (1, vI a1), (2, vI a2)]) rfl rfl rfl ?_)
    have lp137448 : ∀ (n137449 : Nat) (v137451 : Int) (v137452 : Int) (H137453 : wq_H), WT T H137453 → wfr [(51, 999)] T H137168 H137453 → (0 ≤ v137451 ∧ v137451 ≤ 6) → (0 ≤ v137452 ∧ v137452 ≤ 16777215) → (6 - v137451).toNat = n137449 → wp kt 8 254 31 [(5, vI v137451), (4, vI v137452), (0, .ref r0), (1, vI a1), (2, vI a2)] [] T H137453 (q_254 r0 a1 a2 T H) := by
      intro n137449
      induction n137449 using Nat.strongRecOn with
      | _ n137449 ih137450 =>
        intro v137451 v137452 H137453 w137454 f137455 b137456 b137457 m137458
        have f137459 := f137180.tr f137455 rfl
        refine wp_of e254 c254_31 (rw_iload (pc' := 33) (z := v137451) rfl rfl ?_)
        refine wp_of e254 c254_33 (rw_aload_n (pc' := 34) (v := .ref r0) rfl rfl rfl ?_)
        have k137460 : H137453 r0 3 = H137150 r0 3 := ((f137455 r0 3 _ g0 rfl).trans (f137173 r0 3 _ g0 rfl))
        refine wp_of e254 c254_34 (xg_O (pc' := 37) lf_9_337 w137454 g0 sh_42 (by decide) (by decide) ty_42_3 rfl rfl (fun q137462 => ?_) (fun r137461 q137462 g137463 => ?_))
        · exfalso
          omega
        · refine wp_of e254 c254_37 (xg_I (pc' := 40) lf_9_188 w137454 g137463 sh_54 (by decide) (by decide) ty_54_3 rfl rfl (fun b137464 b137465 => ?_))
          refine wp_of e254 c254_40 (rw_icmp_ge (p1 := 84) (p2 := 43) (by decide) rfl ⟨by omega, by omega⟩ ⟨by omega, by omega⟩ (fun c137466 => ?_) (fun c137466 => ?_))
          · refine wp_of e254 c254_84 (rw_aload_n (pc' := 85) (v := .ref r0) rfl rfl rfl ?_)
            refine wp_of e254 c254_85 (rw_iload (pc' := 87) (z := v137452) rfl rfl ?_)
            refine wp_of e254 c254_87 (xc_V (pc' := 90) (r := r0) (as := [vI v137452]) (st := []) (lm_9_58) rfl rfl (Nat.le_of_ble_eq_true rfl) w137454 g0 sh_42 (by decide) rfl (by decide) (s_209 w137454 g0 ⟨by omega, by omega⟩) (fun R137467 T137468 H137469 p137470 => ?_))
            obtain ⟨e137471, w137473, f137474, z137475, e137472, b137476⟩ := p137470
            subst e137471
            subst e137472
            have f137477 := f137459.tr f137474 rfl
            show wp _ _ 254 90 [(5, vI v137451), (4, vI v137452), (0, .ref r0), (1, vI a1), (2, vI a2)] [vI z137475] _ H137469 _
            have k137478 : wKI H137469 r0 = wKI H137168 r0 := ((wKI_fr w137454 g0 f137474 rfl).trans (wKI_fr w137172 g0 f137455 rfl))
            exact wp_ireturn e254 c254_90 rfl ⟨rfl, w137473, f137477, z137475, rfl, ⟨by omega, by omega⟩, by omega⟩
          · refine wp_of e254 c254_43 (rw_iload (pc' := 45) (z := v137452) rfl rfl ?_)
            refine wp_of e254 c254_45 (rw_aload_n (pc' := 46) (v := .ref r0) rfl rfl rfl ?_)
            refine wp_of e254 c254_46 (rw_iload (pc' := 48) (z := v137451) rfl rfl ?_)
            refine wp_of e254 c254_48 (rw_iload_n (pc' := 49) (z := a1) rfl rfl ?_)
            have k137479 : H137453 r0 29 = H137168 r0 29 := (f137455 r0 29 _ g0 rfl)
            have k137480 : wLM H137453 r0 = wLM H137168 r0 := (wLM_fr w137172 g0 f137455 rfl)
            refine wp_of e254 c254_49 (xc_V (pc' := 52) (r := r0) (as := [vI v137451, vI a1]) (st := [vI v137452]) (lm_9_444) rfl rfl (Nat.le_of_ble_eq_true rfl) w137454 g0 sh_42 (by decide) rfl (by decide) (s_251 w137454 g0 ⟨by omega, by omega⟩ ⟨by omega, by omega⟩ q137462 g137463 (by omega)) (fun R137481 T137482 H137483 p137484 => ?_))
            obtain ⟨e137485, w137487, f137488, z137489, e137486, b137490⟩ := p137484
            subst e137485
            subst e137486
            have f137491 := f137459.tr f137488 rfl
            have f137492 := f137455.tr f137488 rfl
            show wp _ _ 254 52 [(5, vI v137451), (4, vI v137452), (0, .ref r0), (1, vI a1), (2, vI a2)] [vI z137489, vI v137452] _ H137483 _
            refine wp_of e254 c254_52 (rw_iload_n (pc' := 53) (z := a2) rfl rfl ?_)
            refine wp_of e254 c254_53 (rw_if_eq (p1 := 63) (p2 := 56) (by decide) rfl ⟨by omega, by omega⟩ (fun c137493 => ?_) (fun c137493 => ?_))
            · refine wp_of e254 c254_63 (rw_iconst (pc' := 64) rfl ?_)
              refine wp_of e254 c254_64 (rw_icmp_ne (p1 := 74) (p2 := 67) (by decide) rfl ⟨by omega, by omega⟩ ⟨by omega, by omega⟩ (fun c137494 => ?_) (fun c137494 => ?_))
              · refine wp_of e254 c254_74 (rw_iconst (pc' := 75) rfl ?_)
                refine wp_of e254 c254_75 (rw_ior (pc' := 76) rfl ?_)
                obtain ⟨v137495, e137496⟩ : ∃ x : Int, x = wq_or v137452 0 := ⟨_, rfl⟩
                rw [← e137496]
                have b137497 : 0 ≤ v137495 ∧ v137495 ≤ 16777215 := by
                  rw [e137496]
                  exact wq_or_24 ⟨by omega, by omega⟩ ⟨by omega, by omega⟩
                refine wp_of e254 c254_76 (rw_istore (pc' := 78) (z := v137495) (L' := [(4, vI v137495), (5, vI v137451), (0, .ref r0), (1, vI a1), (2, vI a2)]) rfl rfl rfl ?_)
                refine wp_of e254 c254_78 (rw_iinc (pc' := 81) (z := v137451) (L' := [(5, vI (v137451 + 1)), (4, vI v137495), (0, .ref r0), (1, vI a1), (2, vI a2)]) rfl rfl rfl rfl ?_)
                refine wp_of e254 c254_81 (rw_goto (p1 := 31) (by decide) ?_)
                exact wp_lc (ks := [5, 4, 0, 1, 2]) (wl_c rfl (wl_c rfl (wl_c rfl (wl_c rfl (wl_c rfl wl_n))))) rfl (by decide) (ih137450 _ (by omega) (v137451 + 1) v137495 H137483 w137487 f137492 ⟨by omega, by omega⟩ ⟨by omega, by omega⟩ rfl)
              · refine wp_of e254 c254_67 (rw_iconst (pc' := 68) rfl ?_)
                refine wp_of e254 c254_68 (rw_iload (pc' := 70) (z := v137451) rfl rfl ?_)
                refine wp_of e254 c254_70 (rw_ishl (pc' := 71) rfl ?_)
                obtain ⟨v137498, e137499⟩ : ∃ x : Int, x = wq_shl 1 v137451 := ⟨_, rfl⟩
                rw [← e137499]
                have b137500 : 1 ≤ v137498 ∧ v137498 ≤ 64 := by
                  rw [e137499]
                  exact wq_shl1_6 ⟨by omega, by omega⟩
                refine wp_of e254 c254_71 (rw_goto (p1 := 75) (by decide) ?_)
                refine wp_of e254 c254_75 (rw_ior (pc' := 76) rfl ?_)
                obtain ⟨v137501, e137502⟩ : ∃ x : Int, x = wq_or v137452 v137498 := ⟨_, rfl⟩
                rw [← e137502]
                have b137503 : 0 ≤ v137501 ∧ v137501 ≤ 16777215 := by
                  rw [e137502]
                  exact wq_or_24 ⟨by omega, by omega⟩ ⟨by omega, by omega⟩
                refine wp_of e254 c254_76 (rw_istore (pc' := 78) (z := v137501) (L' := [(4, vI v137501), (5, vI v137451), (0, .ref r0), (1, vI a1), (2, vI a2)]) rfl rfl rfl ?_)
                refine wp_of e254 c254_78 (rw_iinc (pc' := 81) (z := v137451) (L' := [(5, vI (v137451 + 1)), (4, vI v137501), (0, .ref r0), (1, vI a1), (2, vI a2)]) rfl rfl rfl rfl ?_)
                refine wp_of e254 c254_81 (rw_goto (p1 := 31) (by decide) ?_)
                exact wp_lc (ks := [5, 4, 0, 1, 2]) (wl_c rfl (wl_c rfl (wl_c rfl (wl_c rfl (wl_c rfl wl_n))))) rfl (by decide) (ih137450 _ (by omega) (v137451 + 1) v137501 H137483 w137487 f137492 ⟨by omega, by omega⟩ ⟨by omega, by omega⟩ rfl)
            · refine wp_of e254 c254_56 (rw_aload_n (pc' := 57) (v := .ref r0) rfl rfl rfl ?_)
              have k137504 : H137483 r0 29 = H137453 r0 29 := (f137488 r0 29 _ g0 rfl)
              refine wp_of e254 c254_57 (xg_I (pc' := 60) lf_9_422 w137487 g0 sh_42 (by decide) (by decide) ty_42_29 rfl rfl (fun b137505 b137506 => ?_))
              refine wp_of e254 c254_60 (rw_goto (p1 := 64) (by decide) ?_)
              refine wp_of e254 c254_64 (rw_icmp_ne (p1 := 74) (p2 := 67) (by decide) rfl ⟨by omega, by omega⟩ ⟨by omega, by omega⟩ (fun c137507 => ?_) (fun c137507 => ?_))
              · refine wp_of e254 c254_74 (rw_iconst (pc' := 75) rfl ?_)
                refine wp_of e254 c254_75 (rw_ior (pc' := 76) rfl ?_)
                obtain ⟨v137508, e137509⟩ : ∃ x : Int, x = wq_or v137452 0 := ⟨_, rfl⟩
                rw [← e137509]
                have b137510 : 0 ≤ v137508 ∧ v137508 ≤ 16777215 := by
                  rw [e137509]
                  exact wq_or_24 ⟨by omega, by omega⟩ ⟨by omega, by omega⟩
                refine wp_of e254 c254_76 (rw_istore (pc' := 78) (z := v137508) (L' := [(4, vI v137508), (5, vI v137451), (0, .ref r0), (1, vI a1), (2, vI a2)]) rfl rfl rfl ?_)
                refine wp_of e254 c254_78 (rw_iinc (pc' := 81) (z := v137451) (L' := [(5, vI (v137451 + 1)), (4, vI v137508), (0, .ref r0), (1, vI a1), (2, vI a2)]) rfl rfl rfl rfl ?_)
                refine wp_of e254 c254_81 (rw_goto (p1 := 31) (by decide) ?_)
                exact wp_lc (ks := [5, 4, 0, 1, 2]) (wl_c rfl (wl_c rfl (wl_c rfl (wl_c rfl (wl_c rfl wl_n))))) rfl (by decide) (ih137450 _ (by omega) (v137451 + 1) v137508 H137483 w137487 f137492 ⟨by omega, by omega⟩ ⟨by omega, by omega⟩ rfl)
              · refine wp_of e254 c254_67 (rw_iconst (pc' := 68) rfl ?_)
                refine wp_of e254 c254_68 (rw_iload (pc' := 70) (z := v137451) rfl rfl ?_)
                refine wp_of e254 c254_70 (rw_ishl (pc' := 71) rfl ?_)
                obtain ⟨v137511, e137512⟩ : ∃ x : Int, x = wq_shl 1 v137451 := ⟨_, rfl⟩
                rw [← e137512]
                have b137513 : 1 ≤ v137511 ∧ v137511 ≤ 64 := by
                  rw [e137512]
                  exact wq_shl1_6 ⟨by omega, by omega⟩
                refine wp_of e254 c254_71 (rw_goto (p1 := 75) (by decide) ?_)
                refine wp_of e254 c254_75 (rw_ior (pc' := 76) rfl ?_)
                obtain ⟨v137514, e137515⟩ : ∃ x : Int, x = wq_or v137452 v137511 := ⟨_, rfl⟩
                rw [← e137515]
                have b137516 : 0 ≤ v137514 ∧ v137514 ≤ 16777215 := by
                  rw [e137515]
                  exact wq_or_24 ⟨by omega, by omega⟩ ⟨by omega, by omega⟩
                refine wp_of e254 c254_76 (rw_istore (pc' := 78) (z := v137514) (L' := [(4, vI v137514), (5, vI v137451), (0, .ref r0), (1, vI a1), (2, vI a2)]) rfl rfl rfl ?_)
                refine wp_of e254 c254_78 (rw_iinc (pc' := 81) (z := v137451) (L' := [(5, vI (v137451 + 1)), (4, vI v137514), (0, .ref r0), (1, vI a1), (2, vI a2)]) rfl rfl rfl rfl ?_)
                refine wp_of e254 c254_81 (rw_goto (p1 := 31) (by decide) ?_)
                exact wp_lc (ks := [5, 4, 0, 1, 2]) (wl_c rfl (wl_c rfl (wl_c rfl (wl_c rfl (wl_c rfl wl_n))))) rfl (by decide) (ih137450 _ (by omega) (v137451 + 1) v137514 H137483 w137487 f137492 ⟨by omega, by omega⟩ ⟨by omega, by omega⟩ rfl)
    exact wp_lc (ks := [5, 4, 3, 0, 1, 2]) (wl_c rfl (wl_c rfl (wl_c rfl (wl_c rfl (wl_c rfl wl_n))))) rfl (by decide) (lp137448 _ 0 0 H137168 w137172 wfr.rf ⟨by omega, by omega⟩ ⟨by omega, by omega⟩ rfl)
  · refine wp_of e254 c254_19 (rw_aload_n (pc' := 20) (v := .ref r0) rfl rfl rfl ?_)
    refine wp_of e254 c254_20 (rw_iload_n (pc' := 21) (z := z137178) rfl rfl ?_)
    refine wp_of e254 c254_21 (xc_V (pc' := 24) (r := r0) (as := [vI z137178]) (st := []) (lm_9_54) rfl rfl (Nat.le_of_ble_eq_true rfl) w137172 g0 sh_42 (by decide) rfl (by decide) (s_170 w137172 g0 ⟨by omega, by omega⟩) (fun R137517 T137518 H137519 p137520 => ?_))
    obtain ⟨e137521, w137523, f137524, z137525, e137522, b137526⟩ := p137520
    subst e137521
    subst e137522
    have f137527 := f137180.tr f137524 rfl
    show wp _ _ 254 24 [(3, vI z137178), (0, .ref r0), (1, vI a1), (2, vI a2)] [vI z137525] _ H137519 _
    have k137528 : wKI H137519 r0 = wKI H137168 r0 := (wKI_fr w137172 g0 f137524 rfl)
    exact wp_ireturn e254 c254_24 rfl ⟨rfl, w137523, f137527, z137525, rfl, ⟨by omega, by omega⟩, by omega⟩
/-! StrikeAwakeModel.chance(II)I -/
theorem e255 : wq_en 255 = some (9, 4, false, some FieldType.int) := rfl
theorem c255_0 : mc_cd 255 0 = some (.aload_n 0, 1) := by decide +kernel
theorem c255_1 : mc_cd 255 1 = some (.iconst 0, 1) := by decide +kernel
theorem c255_2 : mc_cd 255 2 = some (.putfield 48, 3) := by decide +kernel
theorem c255_5 : mc_cd 255 5 = some (.aload_n 0, 1) := by decide +kernel
theorem c255_6 : mc_cd 255 6 = some (.aload_n 0, 1) := by decide +kernel
theorem c255_7 : mc_cd 255 7 = some (.iload_n 1, 1) := by decide +kernel
theorem c255_8 : mc_cd 255 8 = some (.invokevirtual 364, 3) := by decide +kernel
theorem c255_11 : mc_cd 255 11 = some (.ifCond .eq 15, 3) := by decide +kernel
theorem c255_14 : mc_cd 255 14 = some (.aload_n 0, 1) := by decide +kernel
theorem c255_15 : mc_cd 255 15 = some (.iload_n 2, 1) := by decide +kernel
theorem c255_16 : mc_cd 255 16 = some (.invokevirtual 373, 3) := by decide +kernel
theorem c255_19 : mc_cd 255 19 = some (.ifCond .eq 7, 3) := by decide +kernel
theorem c255_22 : mc_cd 255 22 = some (.iconst 1, 1) := by decide +kernel
theorem c255_23 : mc_cd 255 23 = some (.goto 4, 3) := by decide +kernel
theorem c255_26 : mc_cd 255 26 = some (.iconst 0, 1) := by decide +kernel
theorem c255_27 : mc_cd 255 27 = some (.invokevirtual 447, 3) := by decide +kernel
theorem c255_30 : mc_cd 255 30 = some (.istore_n 3, 1) := by decide +kernel
theorem c255_31 : mc_cd 255 31 = some (.iload_n 3, 1) := by decide +kernel
theorem c255_32 : mc_cd 255 32 = some (.ifCond .le 11, 3) := by decide +kernel
theorem c255_35 : mc_cd 255 35 = some (.aload_n 0, 1) := by decide +kernel
theorem c255_36 : mc_cd 255 36 = some (.iload_n 3, 1) := by decide +kernel
theorem c255_37 : mc_cd 255 37 = some (.invokevirtual 54, 3) := by decide +kernel
theorem c255_40 : mc_cd 255 40 = some (.goto 25, 3) := by decide +kernel
theorem c255_43 : mc_cd 255 43 = some (.aload_n 0, 1) := by decide +kernel
theorem c255_44 : mc_cd 255 44 = some (.ldc2_w 450, 3) := by decide +kernel
theorem c255_47 : mc_cd 255 47 = some (.aload_n 0, 1) := by decide +kernel
theorem c255_48 : mc_cd 255 48 = some (.iload_n 1, 1) := by decide +kernel
theorem c255_49 : mc_cd 255 49 = some (.iload_n 2, 1) := by decide +kernel
theorem c255_50 : mc_cd 255 50 = some (.invokevirtual 440, 3) := by decide +kernel
theorem c255_53 : mc_cd 255 53 = some (.lmul, 1) := by decide +kernel
theorem c255_54 : mc_cd 255 54 = some (.aload_n 0, 1) := by decide +kernel
theorem c255_55 : mc_cd 255 55 = some (.iconst (-1), 1) := by decide +kernel
theorem c255_56 : mc_cd 255 56 = some (.iconst 0, 1) := by decide +kernel
theorem c255_57 : mc_cd 255 57 = some (.invokevirtual 440, 3) := by decide +kernel
theorem c255_60 : mc_cd 255 60 = some (.ldiv, 1) := by decide +kernel
theorem c255_61 : mc_cd 255 61 = some (.l2i, 1) := by decide +kernel
theorem c255_62 : mc_cd 255 62 = some (.invokevirtual 58, 3) := by decide +kernel
theorem c255_65 : mc_cd 255 65 = some (.ireturn, 1) := by decide +kernel
abbrev q_255 (r0 : Nat) (a1 : Int) (a2 : Int) (T : wq_T) (H : wq_H) : Option Value → wq_T → wq_H → Prop := fun r T' H' => T = T' ∧ WT T H' ∧ wfr [(42, 0), (42, 1), (42, 2), (42, 28), (42, 29), (51, 999), (52, 999)] T H H' ∧ ∃ z : Int, some (vI z) = r ∧ ((-2147483648) ≤ z ∧ z ≤ 2147483647) ∧ (wKI H' r0 = 1)
set_option maxHeartbeats 4000000 in
theorem s_255 {kt : Nat → Option mc_E} {T : wq_T} {H : wq_H} {r0 : Nat} {a1 : Int} {a2 : Int} (hW : WT T H) (g0 : T.2.2.2 r0 = some 42) (i1 : (-2147483648) ≤ a1 ∧ a1 ≤ 2147483647) (i2 : (-2147483648) ≤ a2 ∧ a2 ≤ 2147483647) (p0 : wKI H r0 = 1) : wpc kt 9 255 [.ref r0, vI a1, vI a2] T H (q_255 r0 a1 a2 T H) := by
  refine wp_enter e255 (Nat.le_of_ble_eq_true rfl) rfl ?_
  have f0 : wfr [(42, 0), (42, 1), (42, 2), (42, 28), (42, 29), (51, 999), (52, 999)] T H H := wfr.rf
  show wp _ _ 255 0 [(0, .ref r0), (1, vI a1), (2, vI a2)] [] _ H _
  refine wp_of e255 c255_0 (rw_aload_n (pc' := 1) (v := .ref r0) rfl rfl rfl ?_)
  refine wp_of e255 c255_1 (rw_iconst (pc' := 2) rfl ?_)
  refine wp_of e255 c255_2 (xp_I (pc' := 5) lf_9_48 hW g0 sh_42 (by decide) (by decide) ty_42_0 rfl rfl (by omega) (by omega) ⟨by omega, by omega⟩ rfl (fun H137691 e137692 w137693 => ?_))
  have f137694 := f0.put' e137692 g0 rfl
  have k137695 : H137691 r0 0 = 0 := wq_u_s e137692
  refine wp_of e255 c255_5 (rw_aload_n (pc' := 6) (v := .ref r0) rfl rfl rfl ?_)
  refine wp_of e255 c255_6 (rw_aload_n (pc' := 7) (v := .ref r0) rfl rfl rfl ?_)
  refine wp_of e255 c255_7 (rw_iload_n (pc' := 8) (z := a1) rfl rfl ?_)
  refine wp_of e255 c255_8 (xc_V (pc' := 11) (r := r0) (as := [vI a1]) (st := [.ref r0]) (lm_9_364) rfl rfl (Nat.le_of_ble_eq_true rfl) w137693 g0 sh_42 (by decide) rfl (by decide) (s_213 w137693 g0 ⟨by omega, by omega⟩) (fun R137696 T137697 H137698 p137699 => ?_))
  obtain ⟨e137700, e137702, z137704, e137701, b137705, p137703⟩ := p137699
  subst e137700
  subst e137701
  subst e137702
  show wp _ _ 255 11 [(0, .ref r0), (1, vI a1), (2, vI a2)] [vI z137704, .ref r0] _ H137691 _
  refine wp_of e255 c255_11 (rw_if_eq (p1 := 26) (p2 := 14) (by decide) rfl ⟨by omega, by omega⟩ (fun c137706 => ?_) (fun c137706 => ?_))
  · refine wp_of e255 c255_26 (rw_iconst (pc' := 27) rfl ?_)
    have k137707 : wKI H137691 r0 = wKI H r0 := (wKI_fr hW g0 ((wfr.rf (l := [(42, 0)])).put' e137692 g0 rfl) rfl)
    refine wp_of e255 c255_27 (xc_V (pc' := 30) (r := r0) (as := [vI 0]) (st := []) (lm_9_447) rfl rfl (Nat.le_of_ble_eq_true rfl) w137693 g0 sh_42 (by decide) rfl (by decide) (s_253 w137693 g0 ⟨by omega, by omega⟩ (by omega) (by omega)) (fun R137708 T137709 H137710 p137711 => ?_))
    obtain ⟨e137712, w137714, f137715, z137720, e137713, b137721, p137716, p137717, p137718, p137719⟩ := p137711
    subst e137712
    subst e137713
    have f137722 := f137694.tr f137715 rfl
    show wp _ _ 255 30 [(0, .ref r0), (1, vI a1), (2, vI a2)] [vI z137720] _ H137710 _
    refine wp_of e255 c255_30 (rw_istore_n (pc' := 31) (z := z137720) (L' := [(3, vI z137720), (0, .ref r0), (1, vI a1), (2, vI a2)]) rfl rfl rfl ?_)
    refine wp_of e255 c255_31 (rw_iload_n (pc' := 32) (z := z137720) rfl rfl ?_)
    refine wp_of e255 c255_32 (rw_if_le (p1 := 43) (p2 := 35) (by decide) rfl ⟨by omega, by omega⟩ (fun c137723 => ?_) (fun c137723 => ?_))
    · exfalso
      omega
    · refine wp_of e255 c255_35 (rw_aload_n (pc' := 36) (v := .ref r0) rfl rfl rfl ?_)
      refine wp_of e255 c255_36 (rw_iload_n (pc' := 37) (z := z137720) rfl rfl ?_)
      refine wp_of e255 c255_37 (xc_V (pc' := 40) (r := r0) (as := [vI z137720]) (st := []) (lm_9_54) rfl rfl (Nat.le_of_ble_eq_true rfl) w137714 g0 sh_42 (by decide) rfl (by decide) (s_170 w137714 g0 ⟨by omega, by omega⟩) (fun R137724 T137725 H137726 p137727 => ?_))
      obtain ⟨e137728, w137730, f137731, z137732, e137729, b137733⟩ := p137727
      subst e137728
      subst e137729
      have f137734 := f137722.tr f137731 rfl
      show wp _ _ 255 40 [(3, vI z137720), (0, .ref r0), (1, vI a1), (2, vI a2)] [vI z137732] _ H137726 _
      refine wp_of e255 c255_40 (rw_goto (p1 := 65) (by decide) ?_)
      have k137735 : wKI H137726 r0 = wKI H137710 r0 := (wKI_fr w137714 g0 f137731 rfl)
      exact wp_ireturn e255 c255_65 rfl ⟨rfl, w137730, f137734, z137732, rfl, ⟨by omega, by omega⟩, by omega⟩
  · refine wp_of e255 c255_14 (rw_aload_n (pc' := 15) (v := .ref r0) rfl rfl rfl ?_)
    refine wp_of e255 c255_15 (rw_iload_n (pc' := 16) (z := a2) rfl rfl ?_)
    refine wp_of e255 c255_16 (xc_V (pc' := 19) (r := r0) (as := [vI a2]) (st := [.ref r0]) (lm_9_373) rfl rfl (Nat.le_of_ble_eq_true rfl) w137693 g0 sh_42 (by decide) rfl (by decide) (s_218 w137693 g0 ⟨by omega, by omega⟩) (fun R137736 T137737 H137738 p137739 => ?_))
    obtain ⟨e137740, e137742, z137744, e137741, b137745, p137743⟩ := p137739
    subst e137740
    subst e137741
    subst e137742
    show wp _ _ 255 19 [(0, .ref r0), (1, vI a1), (2, vI a2)] [vI z137744, .ref r0] _ H137691 _
    refine wp_of e255 c255_19 (rw_if_eq (p1 := 26) (p2 := 22) (by decide) rfl ⟨by omega, by omega⟩ (fun c137746 => ?_) (fun c137746 => ?_))
    · refine wp_of e255 c255_26 (rw_iconst (pc' := 27) rfl ?_)
      have k137747 : wKI H137691 r0 = wKI H r0 := (wKI_fr hW g0 ((wfr.rf (l := [(42, 0)])).put' e137692 g0 rfl) rfl)
      refine wp_of e255 c255_27 (xc_V (pc' := 30) (r := r0) (as := [vI 0]) (st := []) (lm_9_447) rfl rfl (Nat.le_of_ble_eq_true rfl) w137693 g0 sh_42 (by decide) rfl (by decide) (s_253 w137693 g0 ⟨by omega, by omega⟩ (by omega) (by omega)) (fun R137748 T137749 H137750 p137751 => ?_))
      obtain ⟨e137752, w137754, f137755, z137760, e137753, b137761, p137756, p137757, p137758, p137759⟩ := p137751
      subst e137752
      subst e137753
      have f137762 := f137694.tr f137755 rfl
      show wp _ _ 255 30 [(0, .ref r0), (1, vI a1), (2, vI a2)] [vI z137760] _ H137750 _
      refine wp_of e255 c255_30 (rw_istore_n (pc' := 31) (z := z137760) (L' := [(3, vI z137760), (0, .ref r0), (1, vI a1), (2, vI a2)]) rfl rfl rfl ?_)
      refine wp_of e255 c255_31 (rw_iload_n (pc' := 32) (z := z137760) rfl rfl ?_)
      refine wp_of e255 c255_32 (rw_if_le (p1 := 43) (p2 := 35) (by decide) rfl ⟨by omega, by omega⟩ (fun c137763 => ?_) (fun c137763 => ?_))
      · exfalso
        omega
      · refine wp_of e255 c255_35 (rw_aload_n (pc' := 36) (v := .ref r0) rfl rfl rfl ?_)
        refine wp_of e255 c255_36 (rw_iload_n (pc' := 37) (z := z137760) rfl rfl ?_)
        refine wp_of e255 c255_37 (xc_V (pc' := 40) (r := r0) (as := [vI z137760]) (st := []) (lm_9_54) rfl rfl (Nat.le_of_ble_eq_true rfl) w137754 g0 sh_42 (by decide) rfl (by decide) (s_170 w137754 g0 ⟨by omega, by omega⟩) (fun R137764 T137765 H137766 p137767 => ?_))
        obtain ⟨e137768, w137770, f137771, z137772, e137769, b137773⟩ := p137767
        subst e137768
        subst e137769
        have f137774 := f137762.tr f137771 rfl
        show wp _ _ 255 40 [(3, vI z137760), (0, .ref r0), (1, vI a1), (2, vI a2)] [vI z137772] _ H137766 _
        refine wp_of e255 c255_40 (rw_goto (p1 := 65) (by decide) ?_)
        have k137775 : wKI H137766 r0 = wKI H137750 r0 := (wKI_fr w137754 g0 f137771 rfl)
        exact wp_ireturn e255 c255_65 rfl ⟨rfl, w137770, f137774, z137772, rfl, ⟨by omega, by omega⟩, by omega⟩
    · refine wp_of e255 c255_22 (rw_iconst (pc' := 23) rfl ?_)
      refine wp_of e255 c255_23 (rw_goto (p1 := 27) (by decide) ?_)
      have k137776 : wKI H137691 r0 = wKI H r0 := (wKI_fr hW g0 ((wfr.rf (l := [(42, 0)])).put' e137692 g0 rfl) rfl)
      refine wp_of e255 c255_27 (xc_V (pc' := 30) (r := r0) (as := [vI 1]) (st := []) (lm_9_447) rfl rfl (Nat.le_of_ble_eq_true rfl) w137693 g0 sh_42 (by decide) rfl (by decide) (s_253 w137693 g0 ⟨by omega, by omega⟩ (by omega) (by omega)) (fun R137777 T137778 H137779 p137780 => ?_))
      obtain ⟨e137781, w137783, f137784, z137789, e137782, b137790, p137785, p137786, p137787, p137788⟩ := p137780
      subst e137781
      subst e137782
      have f137791 := f137694.tr f137784 rfl
      show wp _ _ 255 30 [(0, .ref r0), (1, vI a1), (2, vI a2)] [vI z137789] _ H137779 _
      refine wp_of e255 c255_30 (rw_istore_n (pc' := 31) (z := z137789) (L' := [(3, vI z137789), (0, .ref r0), (1, vI a1), (2, vI a2)]) rfl rfl rfl ?_)
      refine wp_of e255 c255_31 (rw_iload_n (pc' := 32) (z := z137789) rfl rfl ?_)
      refine wp_of e255 c255_32 (rw_if_le (p1 := 43) (p2 := 35) (by decide) rfl ⟨by omega, by omega⟩ (fun c137792 => ?_) (fun c137792 => ?_))
      · refine wp_of e255 c255_43 (rw_aload_n (pc' := 44) (v := .ref r0) rfl rfl rfl ?_)
        refine wp_of e255 c255_44 (rw_ldc2 (pc' := 47) (z := 100) rfl rfl rfl ?_)
        refine wp_of e255 c255_47 (rw_aload_n (pc' := 48) (v := .ref r0) rfl rfl rfl ?_)
        refine wp_of e255 c255_48 (rw_iload_n (pc' := 49) (z := a1) rfl rfl ?_)
        refine wp_of e255 c255_49 (rw_iload_n (pc' := 50) (z := a2) rfl rfl ?_)
        have k137793 : H137779 r0 3 = H137691 r0 3 := (f137784 r0 3 _ g0 rfl)
        obtain ⟨r137794, q137795, g137796⟩ := (w137783.opt g0 (t' := 54) (n := 33) (j := 3) (p := 0) (q := 0) rfl (by decide) rfl).resolve_left (by omega)
        refine wp_of e255 c255_50 (xc_V (pc' := 53) (r := r0) (as := [vI a1, vI a2]) (st := [vL 100, .ref r0]) (lm_9_440) rfl rfl (Nat.le_of_ble_eq_true rfl) w137783 g0 sh_42 (by decide) rfl (by decide) (s_247 w137783 g0 ⟨by omega, by omega⟩ ⟨by omega, by omega⟩ q137795 g137796 (by omega)) (fun R137797 T137798 H137799 p137800 => ?_))
        obtain ⟨e137801, w137803, f137804, z137806, e137802, b137807, p137805⟩ := p137800
        subst e137801
        subst e137802
        have f137808 := f137791.tr f137804 rfl
        show wp _ _ 255 53 [(3, vI z137789), (0, .ref r0), (1, vI a1), (2, vI a2)] [vL z137806, vL 100, .ref r0] _ H137799 _
        refine wp_of e255 c255_53 (rw_lmul (pc' := 54) rfl ?_)
        refine wp_of e255 c255_54 (rw_aload_n (pc' := 55) (v := .ref r0) rfl rfl rfl ?_)
        refine wp_of e255 c255_55 (rw_iconst (pc' := 56) rfl ?_)
        refine wp_of e255 c255_56 (rw_iconst (pc' := 57) rfl ?_)
        have k137809 : H137799 r0 29 = H137779 r0 29 := (f137804 r0 29 _ g0 rfl)
        have k137810 : wLM H137799 r0 = wLM H137779 r0 := (wLM_fr w137783 g0 f137804 rfl)
        have k137811 : H137799 r0 3 = H137779 r0 3 := (f137804 r0 3 _ g0 rfl)
        have q137812 : H137799 r0 3 = (r137794 : Int) := k137811.trans q137795
        refine wp_of e255 c255_57 (xc_V (pc' := 60) (r := r0) (as := [vI (-1), vI 0]) (st := [vL (100 * z137806), .ref r0]) (lm_9_440) rfl rfl (Nat.le_of_ble_eq_true rfl) w137803 g0 sh_42 (by decide) rfl (by decide) (s_247 w137803 g0 ⟨by omega, by omega⟩ ⟨by omega, by omega⟩ q137812 g137796 (by omega)) (fun R137813 T137814 H137815 p137816 => ?_))
        obtain ⟨e137817, w137819, f137820, z137822, e137818, b137823, p137821⟩ := p137816
        subst e137817
        subst e137818
        have f137824 := f137808.tr f137820 rfl
        show wp _ _ 255 60 [(3, vI z137789), (0, .ref r0), (1, vI a1), (2, vI a2)] [vL z137822, vL (100 * z137806), .ref r0] _ H137815 _
        refine wp_of e255 c255_60 (rw_ldiv (pc' := 61) rfl ⟨by omega, by omega⟩ (by omega) ?_)
        obtain ⟨v137825, e137826⟩ : ∃ x : Int, x = wl_div (100 * z137806) z137822 := ⟨_, rfl⟩
        rw [← e137826]
        have b137827 : -9223372036854775808 ≤ v137825 ∧ v137825 ≤ 9223372036854775807 := by
          rw [e137826]
          exact wL_div _ _
        refine wp_of e255 c255_61 (rw_l2i (pc' := 62) rfl ?_)
        obtain ⟨v137828, e137829⟩ : ∃ x : Int, x = wq_w v137825 := ⟨_, rfl⟩
        rw [← e137829]
        have b137830 : -2147483648 ≤ v137828 ∧ v137828 ≤ 2147483647 := by
          rw [e137829]
          exact wI_w _
        have b137831 : (-2147483648 ≤ v137825 ∧ v137825 ≤ 2147483647) → v137828 = v137825 := by
          rw [e137829]
          exact fun h => wq_w_id h
        refine wp_of e255 c255_62 (xc_V (pc' := 65) (r := r0) (as := [vI v137828]) (st := []) (lm_9_58) rfl rfl (Nat.le_of_ble_eq_true rfl) w137819 g0 sh_42 (by decide) rfl (by decide) (s_209 w137819 g0 ⟨by omega, by omega⟩) (fun R137832 T137833 H137834 p137835 => ?_))
        obtain ⟨e137836, w137838, f137839, z137840, e137837, b137841⟩ := p137835
        subst e137836
        subst e137837
        have f137842 := f137824.tr f137839 rfl
        show wp _ _ 255 65 [(3, vI z137789), (0, .ref r0), (1, vI a1), (2, vI a2)] [vI z137840] _ H137834 _
        have k137843 : wKI H137834 r0 = wKI H137779 r0 := ((wKI_fr w137819 g0 f137839 rfl).trans ((wKI_fr w137803 g0 f137820 rfl).trans (wKI_fr w137783 g0 f137804 rfl)))
        exact wp_ireturn e255 c255_65 rfl ⟨rfl, w137838, f137842, z137840, rfl, ⟨by omega, by omega⟩, by omega⟩
      · refine wp_of e255 c255_35 (rw_aload_n (pc' := 36) (v := .ref r0) rfl rfl rfl ?_)
        refine wp_of e255 c255_36 (rw_iload_n (pc' := 37) (z := z137789) rfl rfl ?_)
        refine wp_of e255 c255_37 (xc_V (pc' := 40) (r := r0) (as := [vI z137789]) (st := []) (lm_9_54) rfl rfl (Nat.le_of_ble_eq_true rfl) w137783 g0 sh_42 (by decide) rfl (by decide) (s_170 w137783 g0 ⟨by omega, by omega⟩) (fun R137844 T137845 H137846 p137847 => ?_))
        obtain ⟨e137848, w137850, f137851, z137852, e137849, b137853⟩ := p137847
        subst e137848
        subst e137849
        have f137854 := f137791.tr f137851 rfl
        show wp _ _ 255 40 [(3, vI z137789), (0, .ref r0), (1, vI a1), (2, vI a2)] [vI z137852] _ H137846 _
        refine wp_of e255 c255_40 (rw_goto (p1 := 65) (by decide) ?_)
        have k137855 : wKI H137846 r0 = wKI H137779 r0 := (wKI_fr w137783 g0 f137851 rfl)
        exact wp_ireturn e255 c255_65 rfl ⟨rfl, w137850, f137854, z137852, rfl, ⟨by omega, by omega⟩, by omega⟩
/-! StrikeAwakeModel.findLikeliest()J -/
theorem e257 : wq_en 257 = some (9, 5, false, some FieldType.long) := rfl
theorem c257_0 : mc_cd 257 0 = some (.iconst (-1), 1) := by decide +kernel
theorem c257_1 : mc_cd 257 1 = some (.istore_n 1, 1) := by decide +kernel
theorem c257_2 : mc_cd 257 2 = some (.lconst 0, 1) := by decide +kernel
theorem c257_3 : mc_cd 257 3 = some (.lstore_n 2, 1) := by decide +kernel
theorem c257_4 : mc_cd 257 4 = some (.iconst 0, 1) := by decide +kernel
theorem c257_5 : mc_cd 257 5 = some (.istore 4, 2) := by decide +kernel
theorem c257_7 : mc_cd 257 7 = some (.iload 4, 2) := by decide +kernel
theorem c257_9 : mc_cd 257 9 = some (.aload_n 0, 1) := by decide +kernel
theorem c257_10 : mc_cd 257 10 = some (.getfield 422, 3) := by decide +kernel
theorem c257_13 : mc_cd 257 13 = some (.if_icmp .ge 40, 3) := by decide +kernel
theorem c257_16 : mc_cd 257 16 = some (.aload_n 0, 1) := by decide +kernel
theorem c257_17 : mc_cd 257 17 = some (.aload_n 0, 1) := by decide +kernel
theorem c257_18 : mc_cd 257 18 = some (.getfield 42, 3) := by decide +kernel
theorem c257_21 : mc_cd 257 21 = some (.iload 4, 2) := by decide +kernel
theorem c257_23 : mc_cd 257 23 = some (.iaload, 1) := by decide +kernel
theorem c257_24 : mc_cd 257 24 = some (.invokevirtual 425, 3) := by decide +kernel
theorem c257_27 : mc_cd 257 27 = some (.aload_n 0, 1) := by decide +kernel
theorem c257_28 : mc_cd 257 28 = some (.invokevirtual 437, 3) := by decide +kernel
theorem c257_31 : mc_cd 257 31 = some (.lload_n 2, 1) := by decide +kernel
theorem c257_32 : mc_cd 257 32 = some (.lcmp, 1) := by decide +kernel
theorem c257_33 : mc_cd 257 33 = some (.ifCond .gt 6, 3) := by decide +kernel
theorem c257_36 : mc_cd 257 36 = some (.goto 11, 3) := by decide +kernel
theorem c257_39 : mc_cd 257 39 = some (.aload_n 0, 1) := by decide +kernel
theorem c257_40 : mc_cd 257 40 = some (.invokevirtual 437, 3) := by decide +kernel
theorem c257_43 : mc_cd 257 43 = some (.lstore_n 2, 1) := by decide +kernel
theorem c257_44 : mc_cd 257 44 = some (.iload 4, 2) := by decide +kernel
theorem c257_46 : mc_cd 257 46 = some (.istore_n 1, 1) := by decide +kernel
theorem c257_47 : mc_cd 257 47 = some (.iinc 4 1, 3) := by decide +kernel
theorem c257_50 : mc_cd 257 50 = some (.goto (-43), 3) := by decide +kernel
theorem c257_53 : mc_cd 257 53 = some (.aload_n 0, 1) := by decide +kernel
theorem c257_54 : mc_cd 257 54 = some (.aload_n 0, 1) := by decide +kernel
theorem c257_55 : mc_cd 257 55 = some (.getfield 42, 3) := by decide +kernel
theorem c257_58 : mc_cd 257 58 = some (.iload_n 1, 1) := by decide +kernel
theorem c257_59 : mc_cd 257 59 = some (.iaload, 1) := by decide +kernel
theorem c257_60 : mc_cd 257 60 = some (.invokevirtual 425, 3) := by decide +kernel
theorem c257_63 : mc_cd 257 63 = some (.lload_n 2, 1) := by decide +kernel
theorem c257_64 : mc_cd 257 64 = some (.lreturn, 1) := by decide +kernel
abbrev q_257 (r0 : Nat) (pp : Nat) (T : wq_T) (H : wq_H) : Option Value → wq_T → wq_H → Prop := fun r T' H' => T = T' ∧ WT T H' ∧ wfr [(51, 999)] T H H' ∧ ∃ z : Int, some (vL z) = r ∧ (0 ≤ z ∧ z ≤ 1000000)
set_option maxHeartbeats 4000000 in
theorem s_257 {kt : Nat → Option mc_E} {T : wq_T} {H : wq_H} {r0 : Nat} {pp : Nat} (hW : WT T H) (g0 : T.2.2.2 r0 = some 42) (qpp : H r0 3 = (pp : Int)) (gpp : T.2.2.2 pp = some 54) (p0 : H r0 29 = 0 ∨ 0 < wLM H r0) (p1 : 0 < H r0 29) : wpc kt 3 257 [.ref r0] T H (q_257 r0 pp T H) := by
  refine wp_enter e257 (Nat.le_of_ble_eq_true rfl) rfl ?_
  have f0 : wfr [(51, 999)] T H H := wfr.rf
  show wp _ _ 257 0 [(0, .ref r0)] [] _ H _
  have b138261 : 0 ≤ H r0 29 ∧ H r0 29 ≤ 20000 := hW.box g0 (n := 33) rfl (by decide) rfl
  refine wp_of e257 c257_0 (rw_iconst (pc' := 1) rfl ?_)
  refine wp_of e257 c257_1 (rw_istore_n (pc' := 2) (z := -1) (L' := [(1, vI (-1)), (0, .ref r0)]) rfl rfl rfl ?_)
  refine wp_of e257 c257_2 (rw_lconst (pc' := 3) (z := 0) rfl rfl ?_)
  refine wp_of e257 c257_3 (rw_lstore_n (pc' := 4) (z := 0) (L' := [(2, vL 0), (1, vI (-1)), (0, .ref r0)]) rfl rfl rfl ?_)
  refine wp_of e257 c257_4 (rw_iconst (pc' := 5) rfl ?_)
  refine wp_of e257 c257_5 (rw_istore (pc' := 7) (z := 0) (L' := [(4, vI 0), (2, vL 0), (1, vI (-1)), (0, .ref r0)]) rfl rfl rfl ?_)
  have lp138606 : ∀ (n138607 : Nat) (v138609 : Int) (v138610 : Int) (v138611 : Int) (H138612 : wq_H), WT T H138612 → wfr [(51, 999)] T H H138612 → (0 ≤ v138609 ∧ v138609 ≤ 20000) → (0 ≤ v138610 ∧ v138610 ≤ 1000000) → ((-1) ≤ v138611 ∧ v138611 ≤ 19999) → (v138609 ≤ H138612 r0 29) → (0 ≤ v138611 ∨ (v138609 = 0 ∧ v138610 = 0)) → (20000 - v138609).toNat = n138607 → wp kt 2 257 7 [(4, vI v138609), (2, vL v138610), (1, vI v138611), (0, .ref r0)] [] T H138612 (q_257 r0 pp T H) := by
    intro n138607
    induction n138607 using Nat.strongRecOn with
    | _ n138607 ih138608 =>
      intro v138609 v138610 v138611 H138612 w138613 f138614 b138615 b138616 b138617 x138618 x138619 m138620
      have f138621 := f0.tr f138614 rfl
      have k138622 : H138612 r0 29 = H r0 29 := (f138614 r0 29 _ g0 rfl)
      refine wp_of e257 c257_7 (rw_iload (pc' := 9) (z := v138609) rfl rfl ?_)
      refine wp_of e257 c257_9 (rw_aload_n (pc' := 10) (v := .ref r0) rfl rfl rfl ?_)
      refine wp_of e257 c257_10 (xg_I (pc' := 13) lf_9_422 w138613 g0 sh_42 (by decide) (by decide) ty_42_29 rfl rfl (fun b138623 b138624 => ?_))
      refine wp_of e257 c257_13 (rw_icmp_ge (p1 := 53) (p2 := 16) (by decide) rfl ⟨by omega, by omega⟩ ⟨by omega, by omega⟩ (fun c138625 => ?_) (fun c138625 => ?_))
      · refine wp_of e257 c257_53 (rw_aload_n (pc' := 54) (v := .ref r0) rfl rfl rfl ?_)
        refine wp_of e257 c257_54 (rw_aload_n (pc' := 55) (v := .ref r0) rfl rfl rfl ?_)
        refine wp_of e257 c257_55 (xg_R (pc' := 58) lf_9_42 w138613 g0 sh_42 (by decide) (by decide) ty_42_30 rfl rfl (fun r138626 q138627 g138628 => ?_))
        refine wp_of e257 c257_58 (rw_iload_n (pc' := 59) (z := v138611) rfl rfl ?_)
        refine wp_of e257 c257_59 (xa_I (so := 0) (pc' := 60) w138613 g138628 sh_52 (by decide) (ty_52 _) (by omega) (by omega) rfl (fun b138629 b138630 => ?_))
        have k138631 : wLM H138612 r0 = wLM H r0 := (wLM_fr hW g0 f138614 rfl)
        have k138632 : H138612 r0 3 = H r0 3 := (f138614 r0 3 _ g0 rfl)
        have q138633 : H138612 r0 3 = (pp : Int) := k138632.trans qpp
        refine wp_of e257 c257_60 (xc_V (pc' := 63) (r := r0) (as := [vI (H138612 r138626 (v138611.toNat))]) (st := []) (lm_9_425) rfl rfl (Nat.le_of_ble_eq_true rfl) w138613 g0 sh_42 (by decide) rfl (by decide) (s_243 w138613 g0 ⟨by omega, by omega⟩ q138633 gpp (by omega)) (fun R138634 T138635 H138636 p138637 => ?_))
        obtain ⟨e138638, w138640, f138641, e138639⟩ := p138637
        subst e138638
        subst e138639
        have f138642 := f138621.tr f138641 rfl
        show wp _ _ 257 63 [(4, vI v138609), (2, vL v138610), (1, vI v138611), (0, .ref r0)] [] _ H138636 _
        refine wp_of e257 c257_63 (rw_lload_n (pc' := 64) (z := v138610) rfl rfl ?_)
        exact wp_lreturn e257 c257_64 rfl ⟨rfl, w138640, f138642, v138610, rfl, ⟨by omega, by omega⟩⟩
      · refine wp_of e257 c257_16 (rw_aload_n (pc' := 17) (v := .ref r0) rfl rfl rfl ?_)
        refine wp_of e257 c257_17 (rw_aload_n (pc' := 18) (v := .ref r0) rfl rfl rfl ?_)
        refine wp_of e257 c257_18 (xg_R (pc' := 21) lf_9_42 w138613 g0 sh_42 (by decide) (by decide) ty_42_30 rfl rfl (fun r138643 q138644 g138645 => ?_))
        refine wp_of e257 c257_21 (rw_iload (pc' := 23) (z := v138609) rfl rfl ?_)
        refine wp_of e257 c257_23 (xa_I (so := 0) (pc' := 24) w138613 g138645 sh_52 (by decide) (ty_52 _) (by omega) (by omega) rfl (fun b138646 b138647 => ?_))
        have k138648 : wLM H138612 r0 = wLM H r0 := (wLM_fr hW g0 f138614 rfl)
        have k138649 : H138612 r0 3 = H r0 3 := (f138614 r0 3 _ g0 rfl)
        have q138650 : H138612 r0 3 = (pp : Int) := k138649.trans qpp
        refine wp_of e257 c257_24 (xc_V (pc' := 27) (r := r0) (as := [vI (H138612 r138643 (v138609.toNat))]) (st := []) (lm_9_425) rfl rfl (Nat.le_of_ble_eq_true rfl) w138613 g0 sh_42 (by decide) rfl (by decide) (s_243 w138613 g0 ⟨by omega, by omega⟩ q138650 gpp (by omega)) (fun R138651 T138652 H138653 p138654 => ?_))
        obtain ⟨e138655, w138657, f138658, e138656⟩ := p138654
        subst e138655
        subst e138656
        have f138659 := f138621.tr f138658 rfl
        have f138660 := f138614.tr f138658 rfl
        show wp _ _ 257 27 [(4, vI v138609), (2, vL v138610), (1, vI v138611), (0, .ref r0)] [] _ H138653 _
        refine wp_of e257 c257_27 (rw_aload_n (pc' := 28) (v := .ref r0) rfl rfl rfl ?_)
        have k138661 : H138653 r0 3 = H138612 r0 3 := (f138658 r0 3 _ g0 rfl)
        have q138662 : H138653 r0 3 = (pp : Int) := k138661.trans q138650
        refine wp_of e257 c257_28 (xc_V (pc' := 31) (r := r0) (as := []) (st := []) (lm_9_437) rfl rfl (Nat.le_of_ble_eq_true rfl) w138657 g0 sh_42 (by decide) rfl (by decide) (s_248 w138657 g0 q138662 gpp) (fun R138663 T138664 H138665 p138666 => ?_))
        obtain ⟨e138667, e138669, z138670, e138668, b138671⟩ := p138666
        subst e138667
        subst e138668
        subst e138669
        show wp _ _ 257 31 [(4, vI v138609), (2, vL v138610), (1, vI v138611), (0, .ref r0)] [vL z138670] _ H138653 _
        refine wp_of e257 c257_31 (rw_lload_n (pc' := 32) (z := v138610) rfl rfl ?_)
        refine wp_of e257 c257_32 (rw_lcmp (pc' := 33) rfl ⟨by omega, by omega⟩ ⟨by omega, by omega⟩ ?_)
        have b138672 := wq_cmp_b z138670 v138610
        refine wp_of e257 c257_33 (rw_if_gt (p1 := 39) (p2 := 36) (by decide) rfl ⟨by omega, by omega⟩ (fun c138673 => ?_) (fun c138673 => ?_))
        · refine wp_of e257 c257_39 (rw_aload_n (pc' := 40) (v := .ref r0) rfl rfl rfl ?_)
          refine wp_of e257 c257_40 (xc_V (pc' := 43) (r := r0) (as := []) (st := []) (lm_9_437) rfl rfl (Nat.le_of_ble_eq_true rfl) w138657 g0 sh_42 (by decide) rfl (by decide) (s_248 w138657 g0 q138662 gpp) (fun R138674 T138675 H138676 p138677 => ?_))
          obtain ⟨e138678, e138680, z138681, e138679, b138682⟩ := p138677
          subst e138678
          subst e138679
          subst e138680
          show wp _ _ 257 43 [(4, vI v138609), (2, vL v138610), (1, vI v138611), (0, .ref r0)] [vL z138681] _ H138653 _
          refine wp_of e257 c257_43 (rw_lstore_n (pc' := 44) (z := z138681) (L' := [(2, vL z138681), (4, vI v138609), (1, vI v138611), (0, .ref r0)]) rfl rfl rfl ?_)
          refine wp_of e257 c257_44 (rw_iload (pc' := 46) (z := v138609) rfl rfl ?_)
          refine wp_of e257 c257_46 (rw_istore_n (pc' := 47) (z := v138609) (L' := [(1, vI v138609), (2, vL z138681), (4, vI v138609), (0, .ref r0)]) rfl rfl rfl ?_)
          refine wp_of e257 c257_47 (rw_iinc (pc' := 50) (z := v138609) (L' := [(4, vI (v138609 + 1)), (1, vI v138609), (2, vL z138681), (0, .ref r0)]) rfl rfl rfl rfl ?_)
          refine wp_of e257 c257_50 (rw_goto (p1 := 7) (by decide) ?_)
          have k138683 : H138653 r0 29 = H138612 r0 29 := (f138658 r0 29 _ g0 rfl)
          exact wp_lc (ks := [4, 1, 2, 0]) (wl_c rfl (wl_c rfl (wl_c rfl (wl_c rfl wl_n)))) rfl (by decide) (ih138608 _ (by omega) (v138609 + 1) z138681 v138609 H138653 w138657 f138660 ⟨by omega, by omega⟩ ⟨by omega, by omega⟩ ⟨by omega, by omega⟩ (by omega) (by omega) rfl)
        · refine wp_of e257 c257_36 (rw_goto (p1 := 47) (by decide) ?_)
          refine wp_of e257 c257_47 (rw_iinc (pc' := 50) (z := v138609) (L' := [(4, vI (v138609 + 1)), (2, vL v138610), (1, vI v138611), (0, .ref r0)]) rfl rfl rfl rfl ?_)
          refine wp_of e257 c257_50 (rw_goto (p1 := 7) (by decide) ?_)
          have k138684 : H138653 r0 29 = H138612 r0 29 := (f138658 r0 29 _ g0 rfl)
          exact wp_lc (ks := [4, 2, 1, 0]) (wl_c rfl (wl_c rfl (wl_c rfl (wl_c rfl wl_n)))) rfl (by decide) (ih138608 _ (by omega) (v138609 + 1) v138610 v138611 H138653 w138657 f138660 ⟨by omega, by omega⟩ ⟨by omega, by omega⟩ ⟨by omega, by omega⟩ (by omega) (by omega) rfl)
  exact wp_lc (ks := [4, 2, 1, 0]) (wl_c rfl (wl_c rfl (wl_c rfl (wl_c rfl wl_n)))) rfl (by decide) (lp138606 _ 0 0 (-1) H hW wfr.rf ⟨by omega, by omega⟩ ⟨by omega, by omega⟩ ⟨by omega, by omega⟩ (by omega) (by omega) rfl)
