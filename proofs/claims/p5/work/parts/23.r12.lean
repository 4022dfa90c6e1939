/-! methods of the reference (own work, written by wip/gen2/sx.py) -/
/-! StrikeAwakeModel.struck(I)I -/
theorem e287 : wq_en 287 = some (9, 2, false, some FieldType.int) := rfl
theorem c287_0 : mc_cd 287 0 = some (.aload_n 0, 1) := by decide +kernel
theorem c287_1 : mc_cd 287 1 = some (.iconst 0, 1) := by decide +kernel
theorem c287_2 : mc_cd 287 2 = some (.putfield 48, 3) := by decide +kernel
theorem c287_5 : mc_cd 287 5 = some (.aload_n 0, 1) := by decide +kernel
theorem c287_6 : mc_cd 287 6 = some (.iload_n 1, 1) := by decide +kernel
theorem c287_7 : mc_cd 287 7 = some (.invokevirtual 373, 3) := by decide +kernel
theorem c287_10 : mc_cd 287 10 = some (.ifCond .ne 9, 3) := by decide +kernel
theorem c287_13 : mc_cd 287 13 = some (.aload_n 0, 1) := by decide +kernel
theorem c287_14 : mc_cd 287 14 = some (.iconst 1, 1) := by decide +kernel
theorem c287_15 : mc_cd 287 15 = some (.invokevirtual 54, 3) := by decide +kernel
theorem c287_18 : mc_cd 287 18 = some (.ireturn, 1) := by decide +kernel
theorem c287_19 : mc_cd 287 19 = some (.aload_n 0, 1) := by decide +kernel
theorem c287_20 : mc_cd 287 20 = some (.aload_n 0, 1) := by decide +kernel
theorem c287_21 : mc_cd 287 21 = some (.getfield 17, 3) := by decide +kernel
theorem c287_24 : mc_cd 287 24 = some (.iload_n 1, 1) := by decide +kernel
theorem c287_25 : mc_cd 287 25 = some (.iaload, 1) := by decide +kernel
theorem c287_26 : mc_cd 287 26 = some (.ifCond .ne 8, 3) := by decide +kernel
theorem c287_29 : mc_cd 287 29 = some (.bipush (-2), 2) := by decide +kernel
theorem c287_31 : mc_cd 287 31 = some (.goto 11, 3) := by decide +kernel
theorem c287_34 : mc_cd 287 34 = some (.aload_n 0, 1) := by decide +kernel
theorem c287_35 : mc_cd 287 35 = some (.getfield 17, 3) := by decide +kernel
theorem c287_38 : mc_cd 287 38 = some (.iload_n 1, 1) := by decide +kernel
theorem c287_39 : mc_cd 287 39 = some (.iaload, 1) := by decide +kernel
theorem c287_40 : mc_cd 287 40 = some (.iconst 1, 1) := by decide +kernel
theorem c287_41 : mc_cd 287 41 = some (.isub, 1) := by decide +kernel
theorem c287_42 : mc_cd 287 42 = some (.invokevirtual 58, 3) := by decide +kernel
theorem c287_45 : mc_cd 287 45 = some (.ireturn, 1) := by decide +kernel
abbrev q_287 (r0 : Nat) (a1 : Int) (T : wq_T) (H : wq_H) : Option Value → wq_T → wq_H → Prop := fun r T' H' => T = T' ∧ WT T H' ∧ wfr [(42, 0), (42, 1), (42, 2)] T H H' ∧ ∃ z : Int, some (vI z) = r ∧ ((-2147483648) ≤ z ∧ z ≤ 2147483647) ∧ (wKI H' r0 = 1) ∧ (H' r0 2 = -1)
set_option maxHeartbeats 4000000 in
theorem s_287 {kt : Nat → Option mc_E} {T : wq_T} {H : wq_H} {r0 : Nat} {a1 : Int} (hW : WT T H) (g0 : T.2.2.2 r0 = some 42) (i1 : (-2147483648) ≤ a1 ∧ a1 ≤ 2147483647) (p0 : wKI H r0 = 1) : wpc kt 2 287 [.ref r0, vI a1] T H (q_287 r0 a1 T H) := by
  refine wp_enter e287 (Nat.le_of_ble_eq_true rfl) rfl ?_
  have f0 : wfr [(42, 0), (42, 1), (42, 2)] T H H := wfr.rf
  show wp _ _ 287 0 [(0, .ref r0), (1, vI a1)] [] _ H _
  refine wp_of e287 c287_0 (rw_aload_n (pc' := 1) (v := .ref r0) rfl rfl rfl ?_)
  refine wp_of e287 c287_1 (rw_iconst (pc' := 2) rfl ?_)
  refine wp_of e287 c287_2 (xp_I (pc' := 5) lf_9_48 hW g0 sh_42 (by decide) (by decide) ty_42_0 rfl rfl (by omega) (by omega) ⟨by omega, by omega⟩ rfl (fun H225225 e225226 w225227 => ?_))
  have f225228 := f0.put' e225226 g0 rfl
  have k225229 : H225225 r0 0 = 0 := wq_u_s e225226
  refine wp_of e287 c287_5 (rw_aload_n (pc' := 6) (v := .ref r0) rfl rfl rfl ?_)
  refine wp_of e287 c287_6 (rw_iload_n (pc' := 7) (z := a1) rfl rfl ?_)
  refine wp_of e287 c287_7 (xc_V (pc' := 10) (r := r0) (as := [vI a1]) (st := []) (lm_9_373) rfl rfl (Nat.le_of_ble_eq_true rfl) w225227 g0 sh_42 (by decide) rfl (by decide) (s_218 w225227 g0 ⟨by omega, by omega⟩) (fun R225230 T225231 H225232 p225233 => ?_))
  obtain ⟨e225234, e225236, z225238, e225235, b225239, p225237⟩ := p225233
  subst e225234
  subst e225235
  subst e225236
  show wp _ _ 287 10 [(0, .ref r0), (1, vI a1)] [vI z225238] _ H225225 _
  refine wp_of e287 c287_10 (rw_if_ne (p1 := 19) (p2 := 13) (by decide) rfl ⟨by omega, by omega⟩ (fun c225240 => ?_) (fun c225240 => ?_))
  · refine wp_of e287 c287_19 (rw_aload_n (pc' := 20) (v := .ref r0) rfl rfl rfl ?_)
    refine wp_of e287 c287_20 (rw_aload_n (pc' := 21) (v := .ref r0) rfl rfl rfl ?_)
    refine wp_of e287 c287_21 (xg_R (pc' := 24) lf_9_17 w225227 g0 sh_42 (by decide) (by decide) ty_42_20 rfl rfl (fun r225241 q225242 g225243 => ?_))
    refine wp_of e287 c287_24 (rw_iload_n (pc' := 25) (z := a1) rfl rfl ?_)
    refine wp_of e287 c287_25 (xa_I (so := 0) (pc' := 26) w225227 g225243 sh_44 (by decide) (ty_44 _) (by omega) (by omega) rfl (fun b225244 b225245 => ?_))
    refine wp_of e287 c287_26 (rw_if_ne (p1 := 34) (p2 := 29) (by decide) rfl ⟨by omega, by omega⟩ (fun c225246 => ?_) (fun c225246 => ?_))
    · refine wp_of e287 c287_34 (rw_aload_n (pc' := 35) (v := .ref r0) rfl rfl rfl ?_)
      refine wp_of e287 c287_35 (xg_K (pc' := 38) lf_9_17 w225227 g0 sh_42 (by decide) (by decide) rfl q225242 rfl ?_)
      refine wp_of e287 c287_38 (rw_iload_n (pc' := 39) (z := a1) rfl rfl ?_)
      refine wp_of e287 c287_39 (xa_I (so := 0) (pc' := 40) w225227 g225243 sh_44 (by decide) (ty_44 _) (by omega) (by omega) rfl (fun b225247 b225248 => ?_))
      refine wp_of e287 c287_40 (rw_iconst (pc' := 41) rfl ?_)
      refine wp_of e287 c287_41 (rw_isubw (pc' := 42) rfl ?_)
      obtain ⟨v225249, e225250⟩ : ∃ x : Int, x = wq_w ((H225225 r225241 (a1.toNat)) - 1) := ⟨_, rfl⟩
      rw [← e225250]
      have b225251 : -2147483648 ≤ v225249 ∧ v225249 ≤ 2147483647 := by
        rw [e225250]
        exact wI_w _
      refine wp_of e287 c287_42 (xc_V (pc' := 45) (r := r0) (as := [vI v225249]) (st := []) (lm_9_58) rfl rfl (Nat.le_of_ble_eq_true rfl) w225227 g0 sh_42 (by decide) rfl (by decide) (s_209 w225227 g0 ⟨by omega, by omega⟩) (fun R225252 T225253 H225254 p225255 => ?_))
      obtain ⟨e225256, w225258, f225259, z225261, e225257, b225262, p225260⟩ := p225255
      subst e225256
      subst e225257
      have f225263 := f225228.tr f225259 rfl
      show wp _ _ 287 45 [(0, .ref r0), (1, vI a1)] [vI z225261] _ H225254 _
      have k225264 : wKI H225254 r0 = wKI H r0 := ((wKI_fr w225227 g0 f225259 rfl).trans (wKI_fr hW g0 ((wfr.rf (l := [(42, 0)])).put' e225226 g0 rfl) rfl))
      exact wp_ireturn e287 c287_45 rfl ⟨rfl, w225258, f225263, z225261, rfl, ⟨by omega, by omega⟩, by omega, by omega⟩
    · refine wp_of e287 c287_29 (rw_bipush (pc' := 31) (z := -2) rfl (by decide) ?_)
      refine wp_of e287 c287_31 (rw_goto (p1 := 42) (by decide) ?_)
      refine wp_of e287 c287_42 (xc_V (pc' := 45) (r := r0) (as := [vI (-2)]) (st := []) (lm_9_58) rfl rfl (Nat.le_of_ble_eq_true rfl) w225227 g0 sh_42 (by decide) rfl (by decide) (s_209 w225227 g0 ⟨by omega, by omega⟩) (fun R225265 T225266 H225267 p225268 => ?_))
      obtain ⟨e225269, w225271, f225272, z225274, e225270, b225275, p225273⟩ := p225268
      subst e225269
      subst e225270
      have f225276 := f225228.tr f225272 rfl
      show wp _ _ 287 45 [(0, .ref r0), (1, vI a1)] [vI z225274] _ H225267 _
      have k225277 : wKI H225267 r0 = wKI H r0 := ((wKI_fr w225227 g0 f225272 rfl).trans (wKI_fr hW g0 ((wfr.rf (l := [(42, 0)])).put' e225226 g0 rfl) rfl))
      exact wp_ireturn e287 c287_45 rfl ⟨rfl, w225271, f225276, z225274, rfl, ⟨by omega, by omega⟩, by omega, by omega⟩
  · refine wp_of e287 c287_13 (rw_aload_n (pc' := 14) (v := .ref r0) rfl rfl rfl ?_)
    refine wp_of e287 c287_14 (rw_iconst (pc' := 15) rfl ?_)
    refine wp_of e287 c287_15 (xc_V (pc' := 18) (r := r0) (as := [vI 1]) (st := []) (lm_9_54) rfl rfl (Nat.le_of_ble_eq_true rfl) w225227 g0 sh_42 (by decide) rfl (by decide) (s_170 w225227 g0 ⟨by omega, by omega⟩) (fun R225278 T225279 H225280 p225281 => ?_))
    obtain ⟨e225282, w225284, f225285, z225287, e225283, b225288, p225286⟩ := p225281
    subst e225282
    subst e225283
    have f225289 := f225228.tr f225285 rfl
    show wp _ _ 287 18 [(0, .ref r0), (1, vI a1)] [vI z225287] _ H225280 _
    have k225290 : wKI H225280 r0 = wKI H r0 := ((wKI_fr w225227 g0 f225285 rfl).trans (wKI_fr hW g0 ((wfr.rf (l := [(42, 0)])).put' e225226 g0 rfl) rfl))
    exact wp_ireturn e287 c287_18 rfl ⟨rfl, w225284, f225289, z225287, rfl, ⟨by omega, by omega⟩, by omega, by omega⟩
/-! StrikeAwakeModel.seek()I -/
theorem e288 : wq_en 288 = some (9, 3, false, some FieldType.int) := rfl
theorem c288_0 : mc_cd 288 0 = some (.aload_n 0, 1) := by decide +kernel
theorem c288_1 : mc_cd 288 1 = some (.iconst 0, 1) := by decide +kernel
theorem c288_2 : mc_cd 288 2 = some (.putfield 48, 3) := by decide +kernel
theorem c288_5 : mc_cd 288 5 = some (.aload_n 0, 1) := by decide +kernel
theorem c288_6 : mc_cd 288 6 = some (.aload_n 0, 1) := by decide +kernel
theorem c288_7 : mc_cd 288 7 = some (.getfield 337, 3) := by decide +kernel
theorem c288_10 : mc_cd 288 10 = some (.ifnull 7, 3) := by decide +kernel
theorem c288_13 : mc_cd 288 13 = some (.iconst 1, 1) := by decide +kernel
theorem c288_14 : mc_cd 288 14 = some (.goto 4, 3) := by decide +kernel
theorem c288_17 : mc_cd 288 17 = some (.iconst 0, 1) := by decide +kernel
theorem c288_18 : mc_cd 288 18 = some (.invokevirtual 433, 3) := by decide +kernel
theorem c288_21 : mc_cd 288 21 = some (.istore_n 1, 1) := by decide +kernel
theorem c288_22 : mc_cd 288 22 = some (.iload_n 1, 1) := by decide +kernel
theorem c288_23 : mc_cd 288 23 = some (.ifCond .le 9, 3) := by decide +kernel
theorem c288_26 : mc_cd 288 26 = some (.aload_n 0, 1) := by decide +kernel
theorem c288_27 : mc_cd 288 27 = some (.iload_n 1, 1) := by decide +kernel
theorem c288_28 : mc_cd 288 28 = some (.invokevirtual 54, 3) := by decide +kernel
theorem c288_31 : mc_cd 288 31 = some (.ireturn, 1) := by decide +kernel
theorem c288_32 : mc_cd 288 32 = some (.iconst 0, 1) := by decide +kernel
theorem c288_33 : mc_cd 288 33 = some (.istore_n 2, 1) := by decide +kernel
theorem c288_34 : mc_cd 288 34 = some (.iload_n 2, 1) := by decide +kernel
theorem c288_35 : mc_cd 288 35 = some (.aload_n 0, 1) := by decide +kernel
theorem c288_36 : mc_cd 288 36 = some (.getfield 422, 3) := by decide +kernel
theorem c288_39 : mc_cd 288 39 = some (.if_icmp .ge 48, 3) := by decide +kernel
theorem c288_42 : mc_cd 288 42 = some (.aload_n 0, 1) := by decide +kernel
theorem c288_43 : mc_cd 288 43 = some (.getfield 42, 3) := by decide +kernel
theorem c288_46 : mc_cd 288 46 = some (.iload_n 2, 1) := by decide +kernel
theorem c288_47 : mc_cd 288 47 = some (.iaload, 1) := by decide +kernel
theorem c288_48 : mc_cd 288 48 = some (.aload_n 0, 1) := by decide +kernel
theorem c288_49 : mc_cd 288 49 = some (.getfield 340, 3) := by decide +kernel
theorem c288_52 : mc_cd 288 52 = some (.if_icmp .ge 6, 3) := by decide +kernel
theorem c288_55 : mc_cd 288 55 = some (.goto 26, 3) := by decide +kernel
theorem c288_58 : mc_cd 288 58 = some (.aload_n 0, 1) := by decide +kernel
theorem c288_59 : mc_cd 288 59 = some (.aload_n 0, 1) := by decide +kernel
theorem c288_60 : mc_cd 288 60 = some (.getfield 42, 3) := by decide +kernel
theorem c288_63 : mc_cd 288 63 = some (.iload_n 2, 1) := by decide +kernel
theorem c288_64 : mc_cd 288 64 = some (.iaload, 1) := by decide +kernel
theorem c288_65 : mc_cd 288 65 = some (.iconst 1, 1) := by decide +kernel
theorem c288_66 : mc_cd 288 66 = some (.iadd, 1) := by decide +kernel
theorem c288_67 : mc_cd 288 67 = some (.putfield 340, 3) := by decide +kernel
theorem c288_70 : mc_cd 288 70 = some (.aload_n 0, 1) := by decide +kernel
theorem c288_71 : mc_cd 288 71 = some (.aload_n 0, 1) := by decide +kernel
theorem c288_72 : mc_cd 288 72 = some (.getfield 42, 3) := by decide +kernel
theorem c288_75 : mc_cd 288 75 = some (.iload_n 2, 1) := by decide +kernel
theorem c288_76 : mc_cd 288 76 = some (.iaload, 1) := by decide +kernel
theorem c288_77 : mc_cd 288 77 = some (.invokevirtual 58, 3) := by decide +kernel
theorem c288_80 : mc_cd 288 80 = some (.ireturn, 1) := by decide +kernel
theorem c288_81 : mc_cd 288 81 = some (.iinc 2 1, 3) := by decide +kernel
theorem c288_84 : mc_cd 288 84 = some (.goto (-50), 3) := by decide +kernel
theorem c288_87 : mc_cd 288 87 = some (.aload_n 0, 1) := by decide +kernel
theorem c288_88 : mc_cd 288 88 = some (.bipush 6, 2) := by decide +kernel
theorem c288_90 : mc_cd 288 90 = some (.invokevirtual 54, 3) := by decide +kernel
theorem c288_93 : mc_cd 288 93 = some (.ireturn, 1) := by decide +kernel
abbrev q_288 (r0 : Nat) (T : wq_T) (H : wq_H) : Option Value → wq_T → wq_H → Prop := fun r T' H' => T = T' ∧ WT T H' ∧ wfr [(42, 0), (42, 1), (42, 2), (42, 28), (42, 29), (42, 32), (51, 999), (52, 999)] T H H' ∧ ∃ z : Int, some (vI z) = r ∧ ((-2147483648) ≤ z ∧ z ≤ 2147483647) ∧ (wKI H' r0 = 1) ∧ (H' r0 2 = -1)
set_option maxHeartbeats 4000000 in
theorem s_288 {kt : Nat → Option mc_E} {T : wq_T} {H : wq_H} {r0 : Nat} (hW : WT T H) (g0 : T.2.2.2 r0 = some 42) (p0 : wKI H r0 = 1) : wpc kt 8 288 [.ref r0] T H (q_288 r0 T H) := by
  refine wp_enter e288 (Nat.le_of_ble_eq_true rfl) rfl ?_
  have f0 : wfr [(42, 0), (42, 1), (42, 2), (42, 28), (42, 29), (42, 32), (51, 999), (52, 999)] T H H := wfr.rf
  show wp _ _ 288 0 [(0, .ref r0)] [] _ H _
  refine wp_of e288 c288_0 (rw_aload_n (pc' := 1) (v := .ref r0) rfl rfl rfl ?_)
  refine wp_of e288 c288_1 (rw_iconst (pc' := 2) rfl ?_)
  refine wp_of e288 c288_2 (xp_I (pc' := 5) lf_9_48 hW g0 sh_42 (by decide) (by decide) ty_42_0 rfl rfl (by omega) (by omega) ⟨by omega, by omega⟩ rfl (fun H225505 e225506 w225507 => ?_))
  have f225508 := f0.put' e225506 g0 rfl
  have k225509 : H225505 r0 0 = 0 := wq_u_s e225506
  refine wp_of e288 c288_5 (rw_aload_n (pc' := 6) (v := .ref r0) rfl rfl rfl ?_)
  refine wp_of e288 c288_6 (rw_aload_n (pc' := 7) (v := .ref r0) rfl rfl rfl ?_)
  refine wp_of e288 c288_7 (xg_O (pc' := 10) lf_9_337 w225507 g0 sh_42 (by decide) (by decide) ty_42_3 rfl rfl (fun q225511 => ?_) (fun r225510 q225511 g225512 => ?_))
  · refine wp_of e288 c288_10 (rw_ifnull_n (p1 := 17) (p2 := 13) (by decide) rfl ?_)
    refine wp_of e288 c288_17 (rw_iconst (pc' := 18) rfl ?_)
    have k225513 : wKI H225505 r0 = wKI H r0 := (wKI_fr hW g0 ((wfr.rf (l := [(42, 0)])).put' e225506 g0 rfl) rfl)
    refine wp_of e288 c288_18 (xc_V (pc' := 21) (r := r0) (as := [vI 0]) (st := []) (lm_9_433) rfl rfl (Nat.le_of_ble_eq_true rfl) w225507 g0 sh_42 (by decide) rfl (by decide) (s_241 w225507 g0 ⟨by omega, by omega⟩ (by omega) (by omega)) (fun R225514 T225515 H225516 p225517 => ?_))
    obtain ⟨e225518, w225520, f225521, z225526, e225519, b225527, p225522, p225523, p225524, p225525⟩ := p225517
    subst e225518
    subst e225519
    have f225528 := f225508.tr f225521 rfl
    show wp _ _ 288 21 [(0, .ref r0)] [vI z225526] _ H225516 _
    refine wp_of e288 c288_21 (rw_istore_n (pc' := 22) (z := z225526) (L' := [(1, vI z225526), (0, .ref r0)]) rfl rfl rfl ?_)
    refine wp_of e288 c288_22 (rw_iload_n (pc' := 23) (z := z225526) rfl rfl ?_)
    refine wp_of e288 c288_23 (rw_if_le (p1 := 32) (p2 := 26) (by decide) rfl ⟨by omega, by omega⟩ (fun c225529 => ?_) (fun c225529 => ?_))
    · exfalso
      omega
    · refine wp_of e288 c288_26 (rw_aload_n (pc' := 27) (v := .ref r0) rfl rfl rfl ?_)
      refine wp_of e288 c288_27 (rw_iload_n (pc' := 28) (z := z225526) rfl rfl ?_)
      refine wp_of e288 c288_28 (xc_V (pc' := 31) (r := r0) (as := [vI z225526]) (st := []) (lm_9_54) rfl rfl (Nat.le_of_ble_eq_true rfl) w225520 g0 sh_42 (by decide) rfl (by decide) (s_170 w225520 g0 ⟨by omega, by omega⟩) (fun R225530 T225531 H225532 p225533 => ?_))
      obtain ⟨e225534, w225536, f225537, z225539, e225535, b225540, p225538⟩ := p225533
      subst e225534
      subst e225535
      have f225541 := f225528.tr f225537 rfl
      show wp _ _ 288 31 [(1, vI z225526), (0, .ref r0)] [vI z225539] _ H225532 _
      have k225542 : wKI H225532 r0 = wKI H225516 r0 := (wKI_fr w225520 g0 f225537 rfl)
      exact wp_ireturn e288 c288_31 rfl ⟨rfl, w225536, f225541, z225539, rfl, ⟨by omega, by omega⟩, by omega, by omega⟩
  · refine wp_of e288 c288_10 (rw_ifnull_r (p1 := 17) (p2 := 13) (by decide) rfl ?_)
    refine wp_of e288 c288_13 (rw_iconst (pc' := 14) rfl ?_)
    refine wp_of e288 c288_14 (rw_goto (p1 := 18) (by decide) ?_)
    have k225543 : wKI H225505 r0 = wKI H r0 := (wKI_fr hW g0 ((wfr.rf (l := [(42, 0)])).put' e225506 g0 rfl) rfl)
    refine wp_of e288 c288_18 (xc_V (pc' := 21) (r := r0) (as := [vI 1]) (st := []) (lm_9_433) rfl rfl (Nat.le_of_ble_eq_true rfl) w225507 g0 sh_42 (by decide) rfl (by decide) (s_241 w225507 g0 ⟨by omega, by omega⟩ (by omega) (by omega)) (fun R225544 T225545 H225546 p225547 => ?_))
    obtain ⟨e225548, w225550, f225551, z225556, e225549, b225557, p225552, p225553, p225554, p225555⟩ := p225547
    subst e225548
    subst e225549
    have f225558 := f225508.tr f225551 rfl
    show wp _ _ 288 21 [(0, .ref r0)] [vI z225556] _ H225546 _
    refine wp_of e288 c288_21 (rw_istore_n (pc' := 22) (z := z225556) (L' := [(1, vI z225556), (0, .ref r0)]) rfl rfl rfl ?_)
    refine wp_of e288 c288_22 (rw_iload_n (pc' := 23) (z := z225556) rfl rfl ?_)
    refine wp_of e288 c288_23 (rw_if_le (p1 := 32) (p2 := 26) (by decide) rfl ⟨by omega, by omega⟩ (fun c225559 => ?_) (fun c225559 => ?_))
    · refine wp_of e288 c288_32 (rw_iconst (pc' := 33) rfl ?_)
      refine wp_of e288 c288_33 (rw_istore_n (pc' := 34) (z := 0) (L' := [(2, vI 0), (1, vI z225556), (0, .ref r0)]) rfl rfl rfl ?_)
      have lp225656 : ∀ (n225657 : Nat) (v225659 : Int), (0 ≤ v225659 ∧ v225659 ≤ 20000) → (20000 - v225659).toNat = n225657 → wp kt 7 288 34 [(2, vI v225659), (0, .ref r0)] [] T H225546 (q_288 r0 T H) := by
        intro n225657
        induction n225657 using Nat.strongRecOn with
        | _ n225657 ih225658 =>
          intro v225659 b225662 m225663
          refine wp_of e288 c288_34 (rw_iload_n (pc' := 35) (z := v225659) rfl rfl ?_)
          refine wp_of e288 c288_35 (rw_aload_n (pc' := 36) (v := .ref r0) rfl rfl rfl ?_)
          refine wp_of e288 c288_36 (xg_I (pc' := 39) lf_9_422 w225550 g0 sh_42 (by decide) (by decide) ty_42_29 rfl rfl (fun b225664 b225665 => ?_))
          refine wp_of e288 c288_39 (rw_icmp_ge (p1 := 87) (p2 := 42) (by decide) rfl ⟨by omega, by omega⟩ ⟨by omega, by omega⟩ (fun c225666 => ?_) (fun c225666 => ?_))
          · refine wp_of e288 c288_87 (rw_aload_n (pc' := 88) (v := .ref r0) rfl rfl rfl ?_)
            refine wp_of e288 c288_88 (rw_bipush (pc' := 90) (z := 6) rfl (by decide) ?_)
            refine wp_of e288 c288_90 (xc_V (pc' := 93) (r := r0) (as := [vI 6]) (st := []) (lm_9_54) rfl rfl (Nat.le_of_ble_eq_true rfl) w225550 g0 sh_42 (by decide) rfl (by decide) (s_170 w225550 g0 ⟨by omega, by omega⟩) (fun R225667 T225668 H225669 p225670 => ?_))
            obtain ⟨e225671, w225673, f225674, z225676, e225672, b225677, p225675⟩ := p225670
            subst e225671
            subst e225672
            have f225678 := f225558.tr f225674 rfl
            show wp _ _ 288 93 [(2, vI v225659), (0, .ref r0)] [vI z225676] _ H225669 _
            have k225679 : wKI H225669 r0 = wKI H225546 r0 := (wKI_fr w225550 g0 f225674 rfl)
            exact wp_ireturn e288 c288_93 rfl ⟨rfl, w225673, f225678, z225676, rfl, ⟨by omega, by omega⟩, by omega, by omega⟩
          · refine wp_of e288 c288_42 (rw_aload_n (pc' := 43) (v := .ref r0) rfl rfl rfl ?_)
            refine wp_of e288 c288_43 (xg_R (pc' := 46) lf_9_42 w225550 g0 sh_42 (by decide) (by decide) ty_42_30 rfl rfl (fun r225680 q225681 g225682 => ?_))
            refine wp_of e288 c288_46 (rw_iload_n (pc' := 47) (z := v225659) rfl rfl ?_)
            refine wp_of e288 c288_47 (xa_I (so := 0) (pc' := 48) w225550 g225682 sh_52 (by decide) (ty_52 _) (by omega) (by omega) rfl (fun b225683 b225684 => ?_))
            refine wp_of e288 c288_48 (rw_aload_n (pc' := 49) (v := .ref r0) rfl rfl rfl ?_)
            refine wp_of e288 c288_49 (xg_I (pc' := 52) lf_9_340 w225550 g0 sh_42 (by decide) (by decide) ty_42_32 rfl rfl (fun b225685 b225686 => ?_))
            refine wp_of e288 c288_52 (rw_icmp_ge (p1 := 58) (p2 := 55) (by decide) rfl ⟨by omega, by omega⟩ ⟨by omega, by omega⟩ (fun c225687 => ?_) (fun c225687 => ?_))
            · refine wp_of e288 c288_58 (rw_aload_n (pc' := 59) (v := .ref r0) rfl rfl rfl ?_)
              refine wp_of e288 c288_59 (rw_aload_n (pc' := 60) (v := .ref r0) rfl rfl rfl ?_)
              refine wp_of e288 c288_60 (xg_K (pc' := 63) lf_9_42 w225550 g0 sh_42 (by decide) (by decide) rfl q225681 rfl ?_)
              refine wp_of e288 c288_63 (rw_iload_n (pc' := 64) (z := v225659) rfl rfl ?_)
              refine wp_of e288 c288_64 (xa_I (so := 0) (pc' := 65) w225550 g225682 sh_52 (by decide) (ty_52 _) (by omega) (by omega) rfl (fun b225688 b225689 => ?_))
              refine wp_of e288 c288_65 (rw_iconst (pc' := 66) rfl ?_)
              refine wp_of e288 c288_66 (rw_iadd (pc' := 67) rfl ?_)
              refine wp_of e288 c288_67 (xp_I (pc' := 70) lf_9_340 w225550 g0 sh_42 (by decide) (by decide) ty_42_32 rfl rfl (by omega) (by omega) ⟨by omega, by omega⟩ rfl (fun H225690 e225691 w225692 => ?_))
              have f225693 := f225558.put' e225691 g0 rfl
              have k225694 : H225690 r0 32 = (H225546 r225680 (v225659.toNat)) + 1 := wq_u_s e225691
              refine wp_of e288 c288_70 (rw_aload_n (pc' := 71) (v := .ref r0) rfl rfl rfl ?_)
              refine wp_of e288 c288_71 (rw_aload_n (pc' := 72) (v := .ref r0) rfl rfl rfl ?_)
              have k225695 : H225690 r0 30 = H225546 r0 30 := (wq_u_j e225691 rfl)
              have q225696 : H225690 r0 30 = (r225680 : Int) := k225695.trans q225681
              refine wp_of e288 c288_72 (xg_K (pc' := 75) lf_9_42 w225692 g0 sh_42 (by decide) (by decide) rfl q225696 rfl ?_)
              refine wp_of e288 c288_75 (rw_iload_n (pc' := 76) (z := v225659) rfl rfl ?_)
              have k225697 : H225690 r225680 (v225659.toNat) = H225546 r225680 (v225659.toNat) := (wq_u_t e225691 g0 g225682 rfl (v225659.toNat))
              refine wp_of e288 c288_76 (xa_I (so := 0) (pc' := 77) w225692 g225682 sh_52 (by decide) (ty_52 _) (by omega) (by omega) rfl (fun b225698 b225699 => ?_))
              refine wp_of e288 c288_77 (xc_V (pc' := 80) (r := r0) (as := [vI (H225690 r225680 (v225659.toNat))]) (st := []) (lm_9_58) rfl rfl (Nat.le_of_ble_eq_true rfl) w225692 g0 sh_42 (by decide) rfl (by decide) (s_209 w225692 g0 ⟨by omega, by omega⟩) (fun R225700 T225701 H225702 p225703 => ?_))
              obtain ⟨e225704, w225706, f225707, z225709, e225705, b225710, p225708⟩ := p225703
              subst e225704
              subst e225705
              have f225711 := f225693.tr f225707 rfl
              show wp _ _ 288 80 [(2, vI v225659), (0, .ref r0)] [vI z225709] _ H225702 _
              have k225712 : wKI H225702 r0 = wKI H225546 r0 := ((wKI_fr w225692 g0 f225707 rfl).trans (wKI_fr w225550 g0 ((wfr.rf (l := [(42, 32)])).put' e225691 g0 rfl) rfl))
              exact wp_ireturn e288 c288_80 rfl ⟨rfl, w225706, f225711, z225709, rfl, ⟨by omega, by omega⟩, by omega, by omega⟩
            · refine wp_of e288 c288_55 (rw_goto (p1 := 81) (by decide) ?_)
              refine wp_of e288 c288_81 (rw_iinc (pc' := 84) (z := v225659) (L' := [(2, vI (v225659 + 1)), (0, .ref r0)]) rfl rfl rfl rfl ?_)
              refine wp_of e288 c288_84 (rw_goto (p1 := 34) (by decide) ?_)
              exact wp_lc (ks := [2, 0]) (wl_c rfl (wl_c rfl wl_n)) rfl (by decide) (ih225658 _ (by omega) (v225659 + 1) ⟨by omega, by omega⟩ rfl)
      exact wp_lc (ks := [2, 1, 0]) (wl_c rfl (wl_c rfl wl_n)) rfl (by decide) (lp225656 _ 0 ⟨by omega, by omega⟩ rfl)
    · refine wp_of e288 c288_26 (rw_aload_n (pc' := 27) (v := .ref r0) rfl rfl rfl ?_)
      refine wp_of e288 c288_27 (rw_iload_n (pc' := 28) (z := z225556) rfl rfl ?_)
      refine wp_of e288 c288_28 (xc_V (pc' := 31) (r := r0) (as := [vI z225556]) (st := []) (lm_9_54) rfl rfl (Nat.le_of_ble_eq_true rfl) w225550 g0 sh_42 (by decide) rfl (by decide) (s_170 w225550 g0 ⟨by omega, by omega⟩) (fun R225713 T225714 H225715 p225716 => ?_))
      obtain ⟨e225717, w225719, f225720, z225722, e225718, b225723, p225721⟩ := p225716
      subst e225717
      subst e225718
      have f225724 := f225558.tr f225720 rfl
      show wp _ _ 288 31 [(1, vI z225556), (0, .ref r0)] [vI z225722] _ H225715 _
      have k225725 : wKI H225715 r0 = wKI H225546 r0 := (wKI_fr w225550 g0 f225720 rfl)
      exact wp_ireturn e288 c288_31 rfl ⟨rfl, w225719, f225724, z225722, rfl, ⟨by omega, by omega⟩, by omega, by omega⟩
/-! StrikeAwakeModel.lot(II)I -/
theorem e289 : wq_en 289 = some (9, 3, false, some FieldType.int) := rfl
theorem c289_0 : mc_cd 289 0 = some (.aload_n 0, 1) := by decide +kernel
theorem c289_1 : mc_cd 289 1 = some (.iconst 0, 1) := by decide +kernel
theorem c289_2 : mc_cd 289 2 = some (.putfield 48, 3) := by decide +kernel
theorem c289_5 : mc_cd 289 5 = some (.aload_n 0, 1) := by decide +kernel
theorem c289_6 : mc_cd 289 6 = some (.iload_n 2, 1) := by decide +kernel
theorem c289_7 : mc_cd 289 7 = some (.invokevirtual 364, 3) := by decide +kernel
theorem c289_10 : mc_cd 289 10 = some (.ifCond .eq 7, 3) := by decide +kernel
theorem c289_13 : mc_cd 289 13 = some (.iload_n 1, 1) := by decide +kernel
theorem c289_14 : mc_cd 289 14 = some (.ifCond .ge 9, 3) := by decide +kernel
theorem c289_17 : mc_cd 289 17 = some (.aload_n 0, 1) := by decide +kernel
theorem c289_18 : mc_cd 289 18 = some (.iconst 1, 1) := by decide +kernel
theorem c289_19 : mc_cd 289 19 = some (.invokevirtual 54, 3) := by decide +kernel
theorem c289_22 : mc_cd 289 22 = some (.ireturn, 1) := by decide +kernel
theorem c289_23 : mc_cd 289 23 = some (.aload_n 0, 1) := by decide +kernel
theorem c289_24 : mc_cd 289 24 = some (.invokevirtual 376, 3) := by decide +kernel
theorem c289_27 : mc_cd 289 27 = some (.ldc2_w 428, 3) := by decide +kernel
theorem c289_30 : mc_cd 289 30 = some (.lcmp, 1) := by decide +kernel
theorem c289_31 : mc_cd 289 31 = some (.ifCond .le 9, 3) := by decide +kernel
theorem c289_34 : mc_cd 289 34 = some (.aload_n 0, 1) := by decide +kernel
theorem c289_35 : mc_cd 289 35 = some (.iconst 3, 1) := by decide +kernel
theorem c289_36 : mc_cd 289 36 = some (.invokevirtual 54, 3) := by decide +kernel
theorem c289_39 : mc_cd 289 39 = some (.ireturn, 1) := by decide +kernel
theorem c289_40 : mc_cd 289 40 = some (.iload_n 1, 1) := by decide +kernel
theorem c289_41 : mc_cd 289 41 = some (.i2l, 1) := by decide +kernel
theorem c289_42 : mc_cd 289 42 = some (.aload_n 0, 1) := by decide +kernel
theorem c289_43 : mc_cd 289 43 = some (.invokevirtual 376, 3) := by decide +kernel
theorem c289_46 : mc_cd 289 46 = some (.lcmp, 1) := by decide +kernel
theorem c289_47 : mc_cd 289 47 = some (.ifCond .lt 9, 3) := by decide +kernel
theorem c289_50 : mc_cd 289 50 = some (.aload_n 0, 1) := by decide +kernel
theorem c289_51 : mc_cd 289 51 = some (.iconst 1, 1) := by decide +kernel
theorem c289_52 : mc_cd 289 52 = some (.invokevirtual 54, 3) := by decide +kernel
theorem c289_55 : mc_cd 289 55 = some (.ireturn, 1) := by decide +kernel
theorem c289_56 : mc_cd 289 56 = some (.aload_n 0, 1) := by decide +kernel
theorem c289_57 : mc_cd 289 57 = some (.iload_n 1, 1) := by decide +kernel
theorem c289_58 : mc_cd 289 58 = some (.invokevirtual 425, 3) := by decide +kernel
theorem c289_61 : mc_cd 289 61 = some (.aload_n 0, 1) := by decide +kernel
theorem c289_62 : mc_cd 289 62 = some (.aload_n 0, 1) := by decide +kernel
theorem c289_63 : mc_cd 289 63 = some (.getfield 39, 3) := by decide +kernel
theorem c289_66 : mc_cd 289 66 = some (.iload_n 2, 1) := by decide +kernel
theorem c289_67 : mc_cd 289 67 = some (.iaload, 1) := by decide +kernel
theorem c289_68 : mc_cd 289 68 = some (.invokevirtual 58, 3) := by decide +kernel
theorem c289_71 : mc_cd 289 71 = some (.ireturn, 1) := by decide +kernel
abbrev q_289 (r0 : Nat) (a1 : Int) (a2 : Int) (T : wq_T) (H : wq_H) : Option Value → wq_T → wq_H → Prop := fun r T' H' => T = T' ∧ WT T H' ∧ wfr [(42, 0), (42, 1), (42, 2), (51, 999)] T H H' ∧ ∃ z : Int, some (vI z) = r ∧ ((-2147483648) ≤ z ∧ z ≤ 2147483647) ∧ (wKI H' r0 = 1) ∧ (H' r0 2 = -1)
set_option maxHeartbeats 4000000 in
theorem s_289 {kt : Nat → Option mc_E} {T : wq_T} {H : wq_H} {r0 : Nat} {a1 : Int} {a2 : Int} (hW : WT T H) (g0 : T.2.2.2 r0 = some 42) (i1 : (-2147483648) ≤ a1 ∧ a1 ≤ 2147483647) (i2 : (-2147483648) ≤ a2 ∧ a2 ≤ 2147483647) (p0 : wKI H r0 = 1) : wpc kt 2 289 [.ref r0, vI a1, vI a2] T H (q_289 r0 a1 a2 T H) := by
  refine wp_enter e289 (Nat.le_of_ble_eq_true rfl) rfl ?_
  have f0 : wfr [(42, 0), (42, 1), (42, 2), (51, 999)] T H H := wfr.rf
  show wp _ _ 289 0 [(0, .ref r0), (1, vI a1), (2, vI a2)] [] _ H _
  refine wp_of e289 c289_0 (rw_aload_n (pc' := 1) (v := .ref r0) rfl rfl rfl ?_)
  refine wp_of e289 c289_1 (rw_iconst (pc' := 2) rfl ?_)
  refine wp_of e289 c289_2 (xp_I (pc' := 5) lf_9_48 hW g0 sh_42 (by decide) (by decide) ty_42_0 rfl rfl (by omega) (by omega) ⟨by omega, by omega⟩ rfl (fun H225850 e225851 w225852 => ?_))
  have f225853 := f0.put' e225851 g0 rfl
  have k225854 : H225850 r0 0 = 0 := wq_u_s e225851
  refine wp_of e289 c289_5 (rw_aload_n (pc' := 6) (v := .ref r0) rfl rfl rfl ?_)
  refine wp_of e289 c289_6 (rw_iload_n (pc' := 7) (z := a2) rfl rfl ?_)
  refine wp_of e289 c289_7 (xc_V (pc' := 10) (r := r0) (as := [vI a2]) (st := []) (lm_9_364) rfl rfl (Nat.le_of_ble_eq_true rfl) w225852 g0 sh_42 (by decide) rfl (by decide) (s_213 w225852 g0 ⟨by omega, by omega⟩) (fun R225855 T225856 H225857 p225858 => ?_))
  obtain ⟨e225859, e225861, z225863, e225860, b225864, p225862⟩ := p225858
  subst e225859
  subst e225860
  subst e225861
  show wp _ _ 289 10 [(0, .ref r0), (1, vI a1), (2, vI a2)] [vI z225863] _ H225850 _
  refine wp_of e289 c289_10 (rw_if_eq (p1 := 17) (p2 := 13) (by decide) rfl ⟨by omega, by omega⟩ (fun c225865 => ?_) (fun c225865 => ?_))
  · refine wp_of e289 c289_17 (rw_aload_n (pc' := 18) (v := .ref r0) rfl rfl rfl ?_)
    refine wp_of e289 c289_18 (rw_iconst (pc' := 19) rfl ?_)
    refine wp_of e289 c289_19 (xc_V (pc' := 22) (r := r0) (as := [vI 1]) (st := []) (lm_9_54) rfl rfl (Nat.le_of_ble_eq_true rfl) w225852 g0 sh_42 (by decide) rfl (by decide) (s_170 w225852 g0 ⟨by omega, by omega⟩) (fun R225866 T225867 H225868 p225869 => ?_))
    obtain ⟨e225870, w225872, f225873, z225875, e225871, b225876, p225874⟩ := p225869
    subst e225870
    subst e225871
    have f225877 := f225853.tr f225873 rfl
    show wp _ _ 289 22 [(0, .ref r0), (1, vI a1), (2, vI a2)] [vI z225875] _ H225868 _
    have k225878 : wKI H225868 r0 = wKI H r0 := ((wKI_fr w225852 g0 f225873 rfl).trans (wKI_fr hW g0 ((wfr.rf (l := [(42, 0)])).put' e225851 g0 rfl) rfl))
    exact wp_ireturn e289 c289_22 rfl ⟨rfl, w225872, f225877, z225875, rfl, ⟨by omega, by omega⟩, by omega, by omega⟩
  · refine wp_of e289 c289_13 (rw_iload_n (pc' := 14) (z := a1) rfl rfl ?_)
    refine wp_of e289 c289_14 (rw_if_ge (p1 := 23) (p2 := 17) (by decide) rfl ⟨by omega, by omega⟩ (fun c225879 => ?_) (fun c225879 => ?_))
    · refine wp_of e289 c289_23 (rw_aload_n (pc' := 24) (v := .ref r0) rfl rfl rfl ?_)
      have k225880 : wLM H225850 r0 = wLM H r0 := (wLM_fr hW g0 ((wfr.rf (l := [(42, 0)])).put' e225851 g0 rfl) rfl)
      obtain ⟨r225881, q225882, g225883⟩ := (w225852.opt g0 (t' := 54) (n := 33) (j := 3) (p := 0) (q := 0) rfl (by decide) rfl).resolve_left (by omega)
      refine wp_of e289 c289_24 (xc_V (pc' := 27) (r := r0) (as := []) (st := []) (lm_9_376) rfl rfl (Nat.le_of_ble_eq_true rfl) w225852 g0 sh_42 (by decide) rfl (by decide) (s_220 w225852 g0 q225882 g225883) (fun R225884 T225885 H225886 p225887 => ?_))
      obtain ⟨e225888, e225890, z225892, e225889, b225893, p225891⟩ := p225887
      subst e225888
      subst e225889
      subst e225890
      show wp _ _ 289 27 [(0, .ref r0), (1, vI a1), (2, vI a2)] [vL z225892] _ H225850 _
      refine wp_of e289 c289_27 (rw_ldc2 (pc' := 30) (z := 20000) rfl rfl rfl ?_)
      refine wp_of e289 c289_30 (rw_lcmp (pc' := 31) rfl ⟨by omega, by omega⟩ ⟨by omega, by omega⟩ ?_)
      have b225894 := wq_cmp_b z225892 20000
      refine wp_of e289 c289_31 (rw_if_le (p1 := 40) (p2 := 34) (by decide) rfl ⟨by omega, by omega⟩ (fun c225895 => ?_) (fun c225895 => ?_))
      · refine wp_of e289 c289_40 (rw_iload_n (pc' := 41) (z := a1) rfl rfl ?_)
        refine wp_of e289 c289_41 (rw_i2l (pc' := 42) rfl ⟨by omega, by omega⟩ ?_)
        refine wp_of e289 c289_42 (rw_aload_n (pc' := 43) (v := .ref r0) rfl rfl rfl ?_)
        refine wp_of e289 c289_43 (xc_V (pc' := 46) (r := r0) (as := []) (st := [vL a1]) (lm_9_376) rfl rfl (Nat.le_of_ble_eq_true rfl) w225852 g0 sh_42 (by decide) rfl (by decide) (s_220 w225852 g0 q225882 g225883) (fun R225896 T225897 H225898 p225899 => ?_))
        obtain ⟨e225900, e225902, z225904, e225901, b225905, p225903⟩ := p225899
        subst e225900
        subst e225901
        subst e225902
        show wp _ _ 289 46 [(0, .ref r0), (1, vI a1), (2, vI a2)] [vL z225904, vL a1] _ H225850 _
        refine wp_of e289 c289_46 (rw_lcmp (pc' := 47) rfl ⟨by omega, by omega⟩ ⟨by omega, by omega⟩ ?_)
        have b225906 := wq_cmp_b a1 z225904
        refine wp_of e289 c289_47 (rw_if_lt (p1 := 56) (p2 := 50) (by decide) rfl ⟨by omega, by omega⟩ (fun c225907 => ?_) (fun c225907 => ?_))
        · refine wp_of e289 c289_56 (rw_aload_n (pc' := 57) (v := .ref r0) rfl rfl rfl ?_)
          refine wp_of e289 c289_57 (rw_iload_n (pc' := 58) (z := a1) rfl rfl ?_)
          refine wp_of e289 c289_58 (xc_V (pc' := 61) (r := r0) (as := [vI a1]) (st := []) (lm_9_425) rfl rfl (Nat.le_of_ble_eq_true rfl) w225852 g0 sh_42 (by decide) rfl (by decide) (s_243 w225852 g0 ⟨by omega, by omega⟩ q225882 g225883 (by omega)) (fun R225908 T225909 H225910 p225911 => ?_))
          obtain ⟨e225912, w225914, f225915, e225913⟩ := p225911
          subst e225912
          subst e225913
          have f225916 := f225853.tr f225915 rfl
          show wp _ _ 289 61 [(0, .ref r0), (1, vI a1), (2, vI a2)] [] _ H225910 _
          refine wp_of e289 c289_61 (rw_aload_n (pc' := 62) (v := .ref r0) rfl rfl rfl ?_)
          refine wp_of e289 c289_62 (rw_aload_n (pc' := 63) (v := .ref r0) rfl rfl rfl ?_)
          refine wp_of e289 c289_63 (xg_R (pc' := 66) lf_9_39 w225914 g0 sh_42 (by decide) (by decide) ty_42_27 rfl rfl (fun r225917 q225918 g225919 => ?_))
          refine wp_of e289 c289_66 (rw_iload_n (pc' := 67) (z := a2) rfl rfl ?_)
          refine wp_of e289 c289_67 (xa_I (so := 0) (pc' := 68) w225914 g225919 sh_51 (by decide) (ty_51 _) (by omega) (by omega) rfl (fun b225920 b225921 => ?_))
          refine wp_of e289 c289_68 (xc_V (pc' := 71) (r := r0) (as := [vI (H225910 r225917 (a2.toNat))]) (st := []) (lm_9_58) rfl rfl (Nat.le_of_ble_eq_true rfl) w225914 g0 sh_42 (by decide) rfl (by decide) (s_209 w225914 g0 ⟨by omega, by omega⟩) (fun R225922 T225923 H225924 p225925 => ?_))
          obtain ⟨e225926, w225928, f225929, z225931, e225927, b225932, p225930⟩ := p225925
          subst e225926
          subst e225927
          have f225933 := f225916.tr f225929 rfl
          show wp _ _ 289 71 [(0, .ref r0), (1, vI a1), (2, vI a2)] [vI z225931] _ H225924 _
          have k225934 : wKI H225924 r0 = wKI H r0 := ((wKI_fr w225914 g0 f225929 rfl).trans ((wKI_fr w225852 g0 f225915 rfl).trans (wKI_fr hW g0 ((wfr.rf (l := [(42, 0)])).put' e225851 g0 rfl) rfl)))
          exact wp_ireturn e289 c289_71 rfl ⟨rfl, w225928, f225933, z225931, rfl, ⟨by omega, by omega⟩, by omega, by omega⟩
        · refine wp_of e289 c289_50 (rw_aload_n (pc' := 51) (v := .ref r0) rfl rfl rfl ?_)
          refine wp_of e289 c289_51 (rw_iconst (pc' := 52) rfl ?_)
          refine wp_of e289 c289_52 (xc_V (pc' := 55) (r := r0) (as := [vI 1]) (st := []) (lm_9_54) rfl rfl (Nat.le_of_ble_eq_true rfl) w225852 g0 sh_42 (by decide) rfl (by decide) (s_170 w225852 g0 ⟨by omega, by omega⟩) (fun R225935 T225936 H225937 p225938 => ?_))
          obtain ⟨e225939, w225941, f225942, z225944, e225940, b225945, p225943⟩ := p225938
          subst e225939
          subst e225940
          have f225946 := f225853.tr f225942 rfl
          show wp _ _ 289 55 [(0, .ref r0), (1, vI a1), (2, vI a2)] [vI z225944] _ H225937 _
          have k225947 : wKI H225937 r0 = wKI H r0 := ((wKI_fr w225852 g0 f225942 rfl).trans (wKI_fr hW g0 ((wfr.rf (l := [(42, 0)])).put' e225851 g0 rfl) rfl))
          exact wp_ireturn e289 c289_55 rfl ⟨rfl, w225941, f225946, z225944, rfl, ⟨by omega, by omega⟩, by omega, by omega⟩
      · refine wp_of e289 c289_34 (rw_aload_n (pc' := 35) (v := .ref r0) rfl rfl rfl ?_)
        refine wp_of e289 c289_35 (rw_iconst (pc' := 36) rfl ?_)
        refine wp_of e289 c289_36 (xc_V (pc' := 39) (r := r0) (as := [vI 3]) (st := []) (lm_9_54) rfl rfl (Nat.le_of_ble_eq_true rfl) w225852 g0 sh_42 (by decide) rfl (by decide) (s_170 w225852 g0 ⟨by omega, by omega⟩) (fun R225948 T225949 H225950 p225951 => ?_))
        obtain ⟨e225952, w225954, f225955, z225957, e225953, b225958, p225956⟩ := p225951
        subst e225952
        subst e225953
        have f225959 := f225853.tr f225955 rfl
        show wp _ _ 289 39 [(0, .ref r0), (1, vI a1), (2, vI a2)] [vI z225957] _ H225950 _
        have k225960 : wKI H225950 r0 = wKI H r0 := ((wKI_fr w225852 g0 f225955 rfl).trans (wKI_fr hW g0 ((wfr.rf (l := [(42, 0)])).put' e225851 g0 rfl) rfl))
        exact wp_ireturn e289 c289_39 rfl ⟨rfl, w225954, f225959, z225957, rfl, ⟨by omega, by omega⟩, by omega, by omega⟩
    · refine wp_of e289 c289_17 (rw_aload_n (pc' := 18) (v := .ref r0) rfl rfl rfl ?_)
      refine wp_of e289 c289_18 (rw_iconst (pc' := 19) rfl ?_)
      refine wp_of e289 c289_19 (xc_V (pc' := 22) (r := r0) (as := [vI 1]) (st := []) (lm_9_54) rfl rfl (Nat.le_of_ble_eq_true rfl) w225852 g0 sh_42 (by decide) rfl (by decide) (s_170 w225852 g0 ⟨by omega, by omega⟩) (fun R225961 T225962 H225963 p225964 => ?_))
      obtain ⟨e225965, w225967, f225968, z225970, e225966, b225971, p225969⟩ := p225964
      subst e225965
      subst e225966
      have f225972 := f225853.tr f225968 rfl
      show wp _ _ 289 22 [(0, .ref r0), (1, vI a1), (2, vI a2)] [vI z225970] _ H225963 _
      have k225973 : wKI H225963 r0 = wKI H r0 := ((wKI_fr w225852 g0 f225968 rfl).trans (wKI_fr hW g0 ((wfr.rf (l := [(42, 0)])).put' e225851 g0 rfl) rfl))
      exact wp_ireturn e289 c289_22 rfl ⟨rfl, w225967, f225972, z225970, rfl, ⟨by omega, by omega⟩, by omega, by omega⟩
/-! StrikeAwakeModel.again()Z -/
theorem e290 : wq_en 290 = some (9, 1, false, some FieldType.boolean) := rfl
theorem c290_0 : mc_cd 290 0 = some (.aload_n 0, 1) := by decide +kernel
theorem c290_1 : mc_cd 290 1 = some (.iconst 0, 1) := by decide +kernel
theorem c290_2 : mc_cd 290 2 = some (.putfield 48, 3) := by decide +kernel
theorem c290_5 : mc_cd 290 5 = some (.aload_n 0, 1) := by decide +kernel
theorem c290_6 : mc_cd 290 6 = some (.getfield 337, 3) := by decide +kernel
theorem c290_9 : mc_cd 290 9 = some (.ifnonnull 9, 3) := by decide +kernel
theorem c290_12 : mc_cd 290 12 = some (.aload_n 0, 1) := by decide +kernel
theorem c290_13 : mc_cd 290 13 = some (.iconst 1, 1) := by decide +kernel
theorem c290_14 : mc_cd 290 14 = some (.invokevirtual 400, 3) := by decide +kernel
theorem c290_17 : mc_cd 290 17 = some (.ireturn, 1) := by decide +kernel
theorem c290_18 : mc_cd 290 18 = some (.aload_n 0, 1) := by decide +kernel
theorem c290_19 : mc_cd 290 19 = some (.iconst 0, 1) := by decide +kernel
theorem c290_20 : mc_cd 290 20 = some (.putfield 340, 3) := by decide +kernel
theorem c290_23 : mc_cd 290 23 = some (.aload_n 0, 1) := by decide +kernel
theorem c290_24 : mc_cd 290 24 = some (.invokevirtual 403, 3) := by decide +kernel
theorem c290_27 : mc_cd 290 27 = some (.ireturn, 1) := by decide +kernel
abbrev q_290 (r0 : Nat) (T : wq_T) (H : wq_H) : Option Value → wq_T → wq_H → Prop := fun r T' H' => T = T' ∧ WT T H' ∧ wfr [(42, 0), (42, 1), (42, 2), (42, 32)] T H H' ∧ ∃ z : Int, some (vI z) = r ∧ (0 ≤ z ∧ z ≤ 1) ∧ (wKI H' r0 = 1) ∧ (H' r0 2 = -1)
set_option maxHeartbeats 4000000 in
theorem s_290 {kt : Nat → Option mc_E} {T : wq_T} {H : wq_H} {r0 : Nat} (hW : WT T H) (g0 : T.2.2.2 r0 = some 42) (p0 : wKI H r0 = 1) : wpc kt 3 290 [.ref r0] T H (q_290 r0 T H) := by
  refine wp_enter e290 (Nat.le_of_ble_eq_true rfl) rfl ?_
  have f0 : wfr [(42, 0), (42, 1), (42, 2), (42, 32)] T H H := wfr.rf
  show wp _ _ 290 0 [(0, .ref r0)] [] _ H _
  refine wp_of e290 c290_0 (rw_aload_n (pc' := 1) (v := .ref r0) rfl rfl rfl ?_)
  refine wp_of e290 c290_1 (rw_iconst (pc' := 2) rfl ?_)
  refine wp_of e290 c290_2 (xp_I (pc' := 5) lf_9_48 hW g0 sh_42 (by decide) (by decide) ty_42_0 rfl rfl (by omega) (by omega) ⟨by omega, by omega⟩ rfl (fun H226013 e226014 w226015 => ?_))
  have f226016 := f0.put' e226014 g0 rfl
  have k226017 : H226013 r0 0 = 0 := wq_u_s e226014
  refine wp_of e290 c290_5 (rw_aload_n (pc' := 6) (v := .ref r0) rfl rfl rfl ?_)
  refine wp_of e290 c290_6 (xg_O (pc' := 9) lf_9_337 w226015 g0 sh_42 (by decide) (by decide) ty_42_3 rfl rfl (fun q226019 => ?_) (fun r226018 q226019 g226020 => ?_))
  · refine wp_of e290 c290_9 (rw_ifnonnull_n (p1 := 18) (p2 := 12) (by decide) rfl ?_)
    refine wp_of e290 c290_12 (rw_aload_n (pc' := 13) (v := .ref r0) rfl rfl rfl ?_)
    refine wp_of e290 c290_13 (rw_iconst (pc' := 14) rfl ?_)
    refine wp_of e290 c290_14 (xc_V (pc' := 17) (r := r0) (as := [vI 1]) (st := []) (lm_9_400) rfl rfl (Nat.le_of_ble_eq_true rfl) w226015 g0 sh_42 (by decide) rfl (by decide) (s_223 w226015 g0 ⟨by omega, by omega⟩) (fun R226021 T226022 H226023 p226024 => ?_))
    obtain ⟨e226025, w226027, f226028, z226030, e226026, b226031, p226029⟩ := p226024
    subst e226025
    subst e226026
    have f226032 := f226016.tr f226028 rfl
    show wp _ _ 290 17 [(0, .ref r0)] [vI z226030] _ H226023 _
    have k226033 : wKI H226023 r0 = wKI H r0 := ((wKI_fr w226015 g0 f226028 rfl).trans (wKI_fr hW g0 ((wfr.rf (l := [(42, 0)])).put' e226014 g0 rfl) rfl))
    exact wp_zreturn e290 c290_17 rfl (by omega) ⟨rfl, w226027, f226032, z226030, rfl, ⟨by omega, by omega⟩, by omega, by omega⟩
  · refine wp_of e290 c290_9 (rw_ifnonnull_r (p1 := 18) (p2 := 12) (by decide) rfl ?_)
    refine wp_of e290 c290_18 (rw_aload_n (pc' := 19) (v := .ref r0) rfl rfl rfl ?_)
    refine wp_of e290 c290_19 (rw_iconst (pc' := 20) rfl ?_)
    refine wp_of e290 c290_20 (xp_I (pc' := 23) lf_9_340 w226015 g0 sh_42 (by decide) (by decide) ty_42_32 rfl rfl (by omega) (by omega) ⟨by omega, by omega⟩ rfl (fun H226034 e226035 w226036 => ?_))
    have f226037 := f226016.put' e226035 g0 rfl
    have k226038 : H226034 r0 32 = 0 := wq_u_s e226035
    refine wp_of e290 c290_23 (rw_aload_n (pc' := 24) (v := .ref r0) rfl rfl rfl ?_)
    refine wp_of e290 c290_24 (xc_V (pc' := 27) (r := r0) (as := []) (st := []) (lm_9_403) rfl rfl (Nat.le_of_ble_eq_true rfl) w226036 g0 sh_42 (by decide) rfl (by decide) (s_224 w226036 g0) (fun R226039 T226040 H226041 p226042 => ?_))
    obtain ⟨e226043, w226045, f226046, z226048, e226044, b226049, p226047⟩ := p226042
    subst e226043
    subst e226044
    have f226050 := f226037.tr f226046 rfl
    show wp _ _ 290 27 [(0, .ref r0)] [vI z226048] _ H226041 _
    have k226051 : wKI H226041 r0 = wKI H r0 := ((wKI_fr w226036 g0 f226046 rfl).trans ((wKI_fr w226015 g0 ((wfr.rf (l := [(42, 32)])).put' e226035 g0 rfl) rfl).trans (wKI_fr hW g0 ((wfr.rf (l := [(42, 0)])).put' e226014 g0 rfl) rfl)))
    exact wp_zreturn e290 c290_27 rfl (by omega) ⟨rfl, w226045, f226050, z226048, rfl, ⟨by omega, by omega⟩, by omega, by omega⟩
/-! StrikeAwakeModel.image()J -/
theorem e291 : wq_en 291 = some (9, 4, false, some FieldType.long) := rfl
theorem c291_0 : mc_cd 291 0 = some (.aload_n 0, 1) := by decide +kernel
theorem c291_1 : mc_cd 291 1 = some (.iconst 0, 1) := by decide +kernel
theorem c291_2 : mc_cd 291 2 = some (.putfield 48, 3) := by decide +kernel
theorem c291_5 : mc_cd 291 5 = some (.aload_n 0, 1) := by decide +kernel
theorem c291_6 : mc_cd 291 6 = some (.getfield 337, 3) := by decide +kernel
theorem c291_9 : mc_cd 291 9 = some (.ifnonnull 10, 3) := by decide +kernel
theorem c291_12 : mc_cd 291 12 = some (.aload_n 0, 1) := by decide +kernel
theorem c291_13 : mc_cd 291 13 = some (.iconst 1, 1) := by decide +kernel
theorem c291_14 : mc_cd 291 14 = some (.invokevirtual 54, 3) := by decide +kernel
theorem c291_17 : mc_cd 291 17 = some (.i2l, 1) := by decide +kernel
theorem c291_18 : mc_cd 291 18 = some (.lreturn, 1) := by decide +kernel
theorem c291_19 : mc_cd 291 19 = some (.aload_n 0, 1) := by decide +kernel
theorem c291_20 : mc_cd 291 20 = some (.getfield 340, 3) := by decide +kernel
theorem c291_23 : mc_cd 291 23 = some (.i2l, 1) := by decide +kernel
theorem c291_24 : mc_cd 291 24 = some (.lstore_n 1, 1) := by decide +kernel
theorem c291_25 : mc_cd 291 25 = some (.iconst 0, 1) := by decide +kernel
theorem c291_26 : mc_cd 291 26 = some (.istore_n 3, 1) := by decide +kernel
theorem c291_27 : mc_cd 291 27 = some (.iload_n 3, 1) := by decide +kernel
theorem c291_28 : mc_cd 291 28 = some (.aload_n 0, 1) := by decide +kernel
theorem c291_29 : mc_cd 291 29 = some (.getfield 337, 3) := by decide +kernel
theorem c291_32 : mc_cd 291 32 = some (.getfield 188, 3) := by decide +kernel
theorem c291_35 : mc_cd 291 35 = some (.if_icmp .ge 23, 3) := by decide +kernel
theorem c291_38 : mc_cd 291 38 = some (.ldc2_w 493, 3) := by decide +kernel
theorem c291_41 : mc_cd 291 41 = some (.lload_n 1, 1) := by decide +kernel
theorem c291_42 : mc_cd 291 42 = some (.lmul, 1) := by decide +kernel
theorem c291_43 : mc_cd 291 43 = some (.aload_n 0, 1) := by decide +kernel
theorem c291_44 : mc_cd 291 44 = some (.getfield 36, 3) := by decide +kernel
theorem c291_47 : mc_cd 291 47 = some (.iload_n 3, 1) := by decide +kernel
theorem c291_48 : mc_cd 291 48 = some (.iaload, 1) := by decide +kernel
theorem c291_49 : mc_cd 291 49 = some (.i2l, 1) := by decide +kernel
theorem c291_50 : mc_cd 291 50 = some (.ladd, 1) := by decide +kernel
theorem c291_51 : mc_cd 291 51 = some (.lstore_n 1, 1) := by decide +kernel
theorem c291_52 : mc_cd 291 52 = some (.iinc 3 1, 3) := by decide +kernel
theorem c291_55 : mc_cd 291 55 = some (.goto (-28), 3) := by decide +kernel
theorem c291_58 : mc_cd 291 58 = some (.aload_n 0, 1) := by decide +kernel
theorem c291_59 : mc_cd 291 59 = some (.lload_n 1, 1) := by decide +kernel
theorem c291_60 : mc_cd 291 60 = some (.invokevirtual 380, 3) := by decide +kernel
theorem c291_63 : mc_cd 291 63 = some (.lreturn, 1) := by decide +kernel
abbrev q_291 (r0 : Nat) (T : wq_T) (H : wq_H) : Option Value → wq_T → wq_H → Prop := fun r T' H' => T = T' ∧ WT T H' ∧ wfr [(42, 0), (42, 1), (42, 2)] T H H' ∧ ∃ z : Int, some (vL z) = r ∧ ((-9223372036854775808) ≤ z ∧ z ≤ 9223372036854775807) ∧ (wKI H' r0 = 1) ∧ (H' r0 2 = -1)
set_option maxHeartbeats 4000000 in
theorem s_291 {kt : Nat → Option mc_E} {T : wq_T} {H : wq_H} {r0 : Nat} (hW : WT T H) (g0 : T.2.2.2 r0 = some 42) (p0 : wKI H r0 = 1) : wpc kt 3 291 [.ref r0] T H (q_291 r0 T H) := by
  refine wp_enter e291 (Nat.le_of_ble_eq_true rfl) rfl ?_
  have f0 : wfr [(42, 0), (42, 1), (42, 2)] T H H := wfr.rf
  show wp _ _ 291 0 [(0, .ref r0)] [] _ H _
  refine wp_of e291 c291_0 (rw_aload_n (pc' := 1) (v := .ref r0) rfl rfl rfl ?_)
  refine wp_of e291 c291_1 (rw_iconst (pc' := 2) rfl ?_)
  refine wp_of e291 c291_2 (xp_I (pc' := 5) lf_9_48 hW g0 sh_42 (by decide) (by decide) ty_42_0 rfl rfl (by omega) (by omega) ⟨by omega, by omega⟩ rfl (fun H226187 e226188 w226189 => ?_))
  have f226190 := f0.put' e226188 g0 rfl
  have k226191 : H226187 r0 0 = 0 := wq_u_s e226188
  refine wp_of e291 c291_5 (rw_aload_n (pc' := 6) (v := .ref r0) rfl rfl rfl ?_)
  refine wp_of e291 c291_6 (xg_O (pc' := 9) lf_9_337 w226189 g0 sh_42 (by decide) (by decide) ty_42_3 rfl rfl (fun q226193 => ?_) (fun r226192 q226193 g226194 => ?_))
  · refine wp_of e291 c291_9 (rw_ifnonnull_n (p1 := 19) (p2 := 12) (by decide) rfl ?_)
    refine wp_of e291 c291_12 (rw_aload_n (pc' := 13) (v := .ref r0) rfl rfl rfl ?_)
    refine wp_of e291 c291_13 (rw_iconst (pc' := 14) rfl ?_)
    refine wp_of e291 c291_14 (xc_V (pc' := 17) (r := r0) (as := [vI 1]) (st := []) (lm_9_54) rfl rfl (Nat.le_of_ble_eq_true rfl) w226189 g0 sh_42 (by decide) rfl (by decide) (s_170 w226189 g0 ⟨by omega, by omega⟩) (fun R226195 T226196 H226197 p226198 => ?_))
    obtain ⟨e226199, w226201, f226202, z226204, e226200, b226205, p226203⟩ := p226198
    subst e226199
    subst e226200
    have f226206 := f226190.tr f226202 rfl
    show wp _ _ 291 17 [(0, .ref r0)] [vI z226204] _ H226197 _
    refine wp_of e291 c291_17 (rw_i2l (pc' := 18) rfl ⟨by omega, by omega⟩ ?_)
    have k226207 : wKI H226197 r0 = wKI H r0 := ((wKI_fr w226189 g0 f226202 rfl).trans (wKI_fr hW g0 ((wfr.rf (l := [(42, 0)])).put' e226188 g0 rfl) rfl))
    exact wp_lreturn e291 c291_18 rfl ⟨rfl, w226201, f226206, z226204, rfl, ⟨by omega, by omega⟩, by omega, by omega⟩
  · refine wp_of e291 c291_9 (rw_ifnonnull_r (p1 := 19) (p2 := 12) (by decide) rfl ?_)
    refine wp_of e291 c291_19 (rw_aload_n (pc' := 20) (v := .ref r0) rfl rfl rfl ?_)
    refine wp_of e291 c291_20 (xg_I (pc' := 23) lf_9_340 w226189 g0 sh_42 (by decide) (by decide) ty_42_32 rfl rfl (fun b226208 b226209 => ?_))
    refine wp_of e291 c291_23 (rw_i2l (pc' := 24) rfl ⟨by omega, by omega⟩ ?_)
    refine wp_of e291 c291_24 (rw_lstore_n (pc' := 25) (z := H226187 r0 32) (L' := [(1, vL (H226187 r0 32)), (0, .ref r0)]) rfl rfl rfl ?_)
    refine wp_of e291 c291_25 (rw_iconst (pc' := 26) rfl ?_)
    refine wp_of e291 c291_26 (rw_istore_n (pc' := 27) (z := 0) (L' := [(3, vI 0), (1, vL (H226187 r0 32)), (0, .ref r0)]) rfl rfl rfl ?_)
    have lp226296 : ∀ (n226297 : Nat) (v226299 : Int) (v226300 : Int), (0 ≤ v226299 ∧ v226299 ≤ 6) → ((-9223372036854775808) ≤ v226300 ∧ v226300 ≤ 9223372036854775807) → (6 - v226299).toNat = n226297 → wp kt 2 291 27 [(3, vI v226299), (1, vL v226300), (0, .ref r0)] [] T H226187 (q_291 r0 T H) := by
      intro n226297
      induction n226297 using Nat.strongRecOn with
      | _ n226297 ih226298 =>
        intro v226299 v226300 b226303 b226304 m226305
        refine wp_of e291 c291_27 (rw_iload_n (pc' := 28) (z := v226299) rfl rfl ?_)
        refine wp_of e291 c291_28 (rw_aload_n (pc' := 29) (v := .ref r0) rfl rfl rfl ?_)
        refine wp_of e291 c291_29 (xg_K (pc' := 32) lf_9_337 w226189 g0 sh_42 (by decide) (by decide) rfl q226193 rfl ?_)
        refine wp_of e291 c291_32 (xg_I (pc' := 35) lf_9_188 w226189 g226194 sh_54 (by decide) (by decide) ty_54_3 rfl rfl (fun b226306 b226307 => ?_))
        refine wp_of e291 c291_35 (rw_icmp_ge (p1 := 58) (p2 := 38) (by decide) rfl ⟨by omega, by omega⟩ ⟨by omega, by omega⟩ (fun c226308 => ?_) (fun c226308 => ?_))
        · refine wp_of e291 c291_58 (rw_aload_n (pc' := 59) (v := .ref r0) rfl rfl rfl ?_)
          refine wp_of e291 c291_59 (rw_lload_n (pc' := 60) (z := v226300) rfl rfl ?_)
          refine wp_of e291 c291_60 (xc_V (pc' := 63) (r := r0) (as := [vL v226300]) (st := []) (lm_9_380) rfl rfl (Nat.le_of_ble_eq_true rfl) w226189 g0 sh_42 (by decide) rfl (by decide) (s_221 w226189 g0 ⟨by omega, by omega⟩) (fun R226309 T226310 H226311 p226312 => ?_))
          obtain ⟨e226313, w226315, f226316, z226318, e226314, b226319, p226317⟩ := p226312
          subst e226313
          subst e226314
          have f226320 := f226190.tr f226316 rfl
          show wp _ _ 291 63 [(3, vI v226299), (1, vL v226300), (0, .ref r0)] [vL z226318] _ H226311 _
          have k226321 : wKI H226311 r0 = wKI H r0 := ((wKI_fr w226189 g0 f226316 rfl).trans (wKI_fr hW g0 ((wfr.rf (l := [(42, 0)])).put' e226188 g0 rfl) rfl))
          exact wp_lreturn e291 c291_63 rfl ⟨rfl, w226315, f226320, z226318, rfl, ⟨by omega, by omega⟩, by omega, by omega⟩
        · refine wp_of e291 c291_38 (rw_ldc2 (pc' := 41) (z := 40) rfl rfl rfl ?_)
          refine wp_of e291 c291_41 (rw_lload_n (pc' := 42) (z := v226300) rfl rfl ?_)
          refine wp_of e291 c291_42 (rw_lmulw (pc' := 43) rfl ?_)
          obtain ⟨v226322, e226323⟩ : ∃ x : Int, x = wl_w (40 * v226300) := ⟨_, rfl⟩
          rw [← e226323]
          have b226324 : -9223372036854775808 ≤ v226322 ∧ v226322 ≤ 9223372036854775807 := by
            rw [e226323]
            exact wL_w _
          refine wp_of e291 c291_43 (rw_aload_n (pc' := 44) (v := .ref r0) rfl rfl rfl ?_)
          refine wp_of e291 c291_44 (xg_R (pc' := 47) lf_9_36 w226189 g0 sh_42 (by decide) (by decide) ty_42_26 rfl rfl (fun r226325 q226326 g226327 => ?_))
          refine wp_of e291 c291_47 (rw_iload_n (pc' := 48) (z := v226299) rfl rfl ?_)
          refine wp_of e291 c291_48 (xa_I (so := 0) (pc' := 49) w226189 g226327 sh_50 (by decide) (ty_50 _) (by omega) (by omega) rfl (fun b226328 b226329 => ?_))
          refine wp_of e291 c291_49 (rw_i2l (pc' := 50) rfl ⟨by omega, by omega⟩ ?_)
          refine wp_of e291 c291_50 (rw_laddw (pc' := 51) rfl ?_)
          obtain ⟨v226330, e226331⟩ : ∃ x : Int, x = wl_w (v226322 + (H226187 r226325 (v226299.toNat))) := ⟨_, rfl⟩
          rw [← e226331]
          have b226332 : -9223372036854775808 ≤ v226330 ∧ v226330 ≤ 9223372036854775807 := by
            rw [e226331]
            exact wL_w _
          refine wp_of e291 c291_51 (rw_lstore_n (pc' := 52) (z := v226330) (L' := [(1, vL v226330), (3, vI v226299), (0, .ref r0)]) rfl rfl rfl ?_)
          refine wp_of e291 c291_52 (rw_iinc (pc' := 55) (z := v226299) (L' := [(3, vI (v226299 + 1)), (1, vL v226330), (0, .ref r0)]) rfl rfl rfl rfl ?_)
          refine wp_of e291 c291_55 (rw_goto (p1 := 27) (by decide) ?_)
          exact wp_lc (ks := [3, 1, 0]) (wl_c rfl (wl_c rfl (wl_c rfl wl_n))) rfl (by decide) (ih226298 _ (by omega) (v226299 + 1) v226330 ⟨by omega, by omega⟩ ⟨by omega, by omega⟩ rfl)
    exact wp_lc (ks := [3, 1, 0]) (wl_c rfl (wl_c rfl (wl_c rfl wl_n))) rfl (by decide) (lp226296 _ 0 (H226187 r0 32) ⟨by omega, by omega⟩ ⟨by omega, by omega⟩ rfl)
/-! StrikeAwakeModel.restore(J)Z -/
theorem e292 : wq_en 292 = some (9, 7, false, some FieldType.boolean) := rfl
theorem c292_0 : mc_cd 292 0 = some (.aload_n 0, 1) := by decide +kernel
theorem c292_1 : mc_cd 292 1 = some (.iconst 0, 1) := by decide +kernel
theorem c292_2 : mc_cd 292 2 = some (.putfield 48, 3) := by decide +kernel
theorem c292_5 : mc_cd 292 5 = some (.aload_n 0, 1) := by decide +kernel
theorem c292_6 : mc_cd 292 6 = some (.getfield 337, 3) := by decide +kernel
theorem c292_9 : mc_cd 292 9 = some (.ifnonnull 9, 3) := by decide +kernel
theorem c292_12 : mc_cd 292 12 = some (.aload_n 0, 1) := by decide +kernel
theorem c292_13 : mc_cd 292 13 = some (.iconst 1, 1) := by decide +kernel
theorem c292_14 : mc_cd 292 14 = some (.invokevirtual 400, 3) := by decide +kernel
theorem c292_17 : mc_cd 292 17 = some (.ireturn, 1) := by decide +kernel
theorem c292_18 : mc_cd 292 18 = some (.lload_n 1, 1) := by decide +kernel
theorem c292_19 : mc_cd 292 19 = some (.lstore_n 3, 1) := by decide +kernel
theorem c292_20 : mc_cd 292 20 = some (.lload_n 1, 1) := by decide +kernel
theorem c292_21 : mc_cd 292 21 = some (.lconst 0, 1) := by decide +kernel
theorem c292_22 : mc_cd 292 22 = some (.lcmp, 1) := by decide +kernel
theorem c292_23 : mc_cd 292 23 = some (.ifCond .lt 7, 3) := by decide +kernel
theorem c292_26 : mc_cd 292 26 = some (.iconst 1, 1) := by decide +kernel
theorem c292_27 : mc_cd 292 27 = some (.goto 4, 3) := by decide +kernel
theorem c292_30 : mc_cd 292 30 = some (.iconst 0, 1) := by decide +kernel
theorem c292_31 : mc_cd 292 31 = some (.istore 5, 2) := by decide +kernel
theorem c292_33 : mc_cd 292 33 = some (.aload_n 0, 1) := by decide +kernel
theorem c292_34 : mc_cd 292 34 = some (.getfield 337, 3) := by decide +kernel
theorem c292_37 : mc_cd 292 37 = some (.getfield 188, 3) := by decide +kernel
theorem c292_40 : mc_cd 292 40 = some (.iconst 1, 1) := by decide +kernel
theorem c292_41 : mc_cd 292 41 = some (.isub, 1) := by decide +kernel
theorem c292_42 : mc_cd 292 42 = some (.istore 6, 2) := by decide +kernel
theorem c292_44 : mc_cd 292 44 = some (.iload 6, 2) := by decide +kernel
theorem c292_46 : mc_cd 292 46 = some (.ifCond .lt 67, 3) := by decide +kernel
theorem c292_49 : mc_cd 292 49 = some (.iload 5, 2) := by decide +kernel
theorem c292_51 : mc_cd 292 51 = some (.ifCond .eq 62, 3) := by decide +kernel
theorem c292_54 : mc_cd 292 54 = some (.aload_n 0, 1) := by decide +kernel
theorem c292_55 : mc_cd 292 55 = some (.getfield 45, 3) := by decide +kernel
theorem c292_58 : mc_cd 292 58 = some (.iload 6, 2) := by decide +kernel
theorem c292_60 : mc_cd 292 60 = some (.lload_n 3, 1) := by decide +kernel
theorem c292_61 : mc_cd 292 61 = some (.ldc2_w 493, 3) := by decide +kernel
theorem c292_64 : mc_cd 292 64 = some (.lrem, 1) := by decide +kernel
theorem c292_65 : mc_cd 292 65 = some (.l2i, 1) := by decide +kernel
theorem c292_66 : mc_cd 292 66 = some (.iastore, 1) := by decide +kernel
theorem c292_67 : mc_cd 292 67 = some (.aload_n 0, 1) := by decide +kernel
theorem c292_68 : mc_cd 292 68 = some (.getfield 45, 3) := by decide +kernel
theorem c292_71 : mc_cd 292 71 = some (.iload 6, 2) := by decide +kernel
theorem c292_73 : mc_cd 292 73 = some (.iaload, 1) := by decide +kernel
theorem c292_74 : mc_cd 292 74 = some (.ifCond .eq 20, 3) := by decide +kernel
theorem c292_77 : mc_cd 292 77 = some (.aload_n 0, 1) := by decide +kernel
theorem c292_78 : mc_cd 292 78 = some (.getfield 45, 3) := by decide +kernel
theorem c292_81 : mc_cd 292 81 = some (.iload 6, 2) := by decide +kernel
theorem c292_83 : mc_cd 292 83 = some (.iaload, 1) := by decide +kernel
theorem c292_84 : mc_cd 292 84 = some (.aload_n 0, 1) := by decide +kernel
theorem c292_85 : mc_cd 292 85 = some (.getfield 21, 3) := by decide +kernel
theorem c292_88 : mc_cd 292 88 = some (.iload 6, 2) := by decide +kernel
theorem c292_90 : mc_cd 292 90 = some (.iaload, 1) := by decide +kernel
theorem c292_91 : mc_cd 292 91 = some (.if_icmp .ge 7, 3) := by decide +kernel
theorem c292_94 : mc_cd 292 94 = some (.iconst 1, 1) := by decide +kernel
theorem c292_95 : mc_cd 292 95 = some (.goto 4, 3) := by decide +kernel
theorem c292_98 : mc_cd 292 98 = some (.iconst 0, 1) := by decide +kernel
theorem c292_99 : mc_cd 292 99 = some (.istore 5, 2) := by decide +kernel
theorem c292_101 : mc_cd 292 101 = some (.lload_n 3, 1) := by decide +kernel
theorem c292_102 : mc_cd 292 102 = some (.ldc2_w 493, 3) := by decide +kernel
theorem c292_105 : mc_cd 292 105 = some (.ldiv, 1) := by decide +kernel
theorem c292_106 : mc_cd 292 106 = some (.lstore_n 3, 1) := by decide +kernel
theorem c292_107 : mc_cd 292 107 = some (.iinc 6 (-1), 3) := by decide +kernel
theorem c292_110 : mc_cd 292 110 = some (.goto (-66), 3) := by decide +kernel
theorem c292_113 : mc_cd 292 113 = some (.iload 5, 2) := by decide +kernel
theorem c292_115 : mc_cd 292 115 = some (.ifCond .eq 11, 3) := by decide +kernel
theorem c292_118 : mc_cd 292 118 = some (.lload_n 3, 1) := by decide +kernel
theorem c292_119 : mc_cd 292 119 = some (.ldc2_w 428, 3) := by decide +kernel
theorem c292_122 : mc_cd 292 122 = some (.lcmp, 1) := by decide +kernel
theorem c292_123 : mc_cd 292 123 = some (.ifCond .le 9, 3) := by decide +kernel
theorem c292_126 : mc_cd 292 126 = some (.aload_n 0, 1) := by decide +kernel
theorem c292_127 : mc_cd 292 127 = some (.iconst 2, 1) := by decide +kernel
theorem c292_128 : mc_cd 292 128 = some (.invokevirtual 400, 3) := by decide +kernel
theorem c292_131 : mc_cd 292 131 = some (.ireturn, 1) := by decide +kernel
theorem c292_132 : mc_cd 292 132 = some (.iconst 0, 1) := by decide +kernel
theorem c292_133 : mc_cd 292 133 = some (.istore 6, 2) := by decide +kernel
theorem c292_135 : mc_cd 292 135 = some (.iload 6, 2) := by decide +kernel
theorem c292_137 : mc_cd 292 137 = some (.aload_n 0, 1) := by decide +kernel
theorem c292_138 : mc_cd 292 138 = some (.getfield 337, 3) := by decide +kernel
theorem c292_141 : mc_cd 292 141 = some (.getfield 188, 3) := by decide +kernel
theorem c292_144 : mc_cd 292 144 = some (.if_icmp .ge 23, 3) := by decide +kernel
theorem c292_147 : mc_cd 292 147 = some (.aload_n 0, 1) := by decide +kernel
theorem c292_148 : mc_cd 292 148 = some (.getfield 36, 3) := by decide +kernel
theorem c292_151 : mc_cd 292 151 = some (.iload 6, 2) := by decide +kernel
theorem c292_153 : mc_cd 292 153 = some (.aload_n 0, 1) := by decide +kernel
theorem c292_154 : mc_cd 292 154 = some (.getfield 45, 3) := by decide +kernel
theorem c292_157 : mc_cd 292 157 = some (.iload 6, 2) := by decide +kernel
theorem c292_159 : mc_cd 292 159 = some (.iaload, 1) := by decide +kernel
theorem c292_160 : mc_cd 292 160 = some (.iastore, 1) := by decide +kernel
theorem c292_161 : mc_cd 292 161 = some (.iinc 6 1, 3) := by decide +kernel
theorem c292_164 : mc_cd 292 164 = some (.goto (-29), 3) := by decide +kernel
theorem c292_167 : mc_cd 292 167 = some (.aload_n 0, 1) := by decide +kernel
theorem c292_168 : mc_cd 292 168 = some (.lload_n 3, 1) := by decide +kernel
theorem c292_169 : mc_cd 292 169 = some (.l2i, 1) := by decide +kernel
theorem c292_170 : mc_cd 292 170 = some (.putfield 340, 3) := by decide +kernel
theorem c292_173 : mc_cd 292 173 = some (.aload_n 0, 1) := by decide +kernel
theorem c292_174 : mc_cd 292 174 = some (.invokevirtual 403, 3) := by decide +kernel
theorem c292_177 : mc_cd 292 177 = some (.ireturn, 1) := by decide +kernel
abbrev q_292 (r0 : Nat) (a1 : Int) (T : wq_T) (H : wq_H) : Option Value → wq_T → wq_H → Prop := fun r T' H' => T = T' ∧ WT T H' ∧ wfr [(42, 0), (42, 1), (42, 2), (42, 32), (53, 999), (50, 999)] T H H' ∧ ∃ z : Int, some (vI z) = r ∧ (0 ≤ z ∧ z ≤ 1) ∧ (wKI H' r0 = 1) ∧ (H' r0 2 = -1)
set_option maxHeartbeats 4000000 in
theorem s_292 {kt : Nat → Option mc_E} {T : wq_T} {H : wq_H} {r0 : Nat} {a1 : Int} (hW : WT T H) (g0 : T.2.2.2 r0 = some 42) (i1 : (-9223372036854775808) ≤ a1 ∧ a1 ≤ 9223372036854775807) (p0 : wKI H r0 = 1) : wpc kt 3 292 [.ref r0, vL a1] T H (q_292 r0 a1 T H) := by
  refine wp_enter e292 (Nat.le_of_ble_eq_true rfl) rfl ?_
  have f0 : wfr [(42, 0), (42, 1), (42, 2), (42, 32), (53, 999), (50, 999)] T H H := wfr.rf
  show wp _ _ 292 0 [(0, .ref r0), (1, vL a1)] [] _ H _
  refine wp_of e292 c292_0 (rw_aload_n (pc' := 1) (v := .ref r0) rfl rfl rfl ?_)
  refine wp_of e292 c292_1 (rw_iconst (pc' := 2) rfl ?_)
  refine wp_of e292 c292_2 (xp_I (pc' := 5) lf_9_48 hW g0 sh_42 (by decide) (by decide) ty_42_0 rfl rfl (by omega) (by omega) ⟨by omega, by omega⟩ rfl (fun H226698 e226699 w226700 => ?_))
  have f226701 := f0.put' e226699 g0 rfl
  have k226702 : H226698 r0 0 = 0 := wq_u_s e226699
  refine wp_of e292 c292_5 (rw_aload_n (pc' := 6) (v := .ref r0) rfl rfl rfl ?_)
  refine wp_of e292 c292_6 (xg_O (pc' := 9) lf_9_337 w226700 g0 sh_42 (by decide) (by decide) ty_42_3 rfl rfl (fun q226704 => ?_) (fun r226703 q226704 g226705 => ?_))
  · refine wp_of e292 c292_9 (rw_ifnonnull_n (p1 := 18) (p2 := 12) (by decide) rfl ?_)
    refine wp_of e292 c292_12 (rw_aload_n (pc' := 13) (v := .ref r0) rfl rfl rfl ?_)
    refine wp_of e292 c292_13 (rw_iconst (pc' := 14) rfl ?_)
    refine wp_of e292 c292_14 (xc_V (pc' := 17) (r := r0) (as := [vI 1]) (st := []) (lm_9_400) rfl rfl (Nat.le_of_ble_eq_true rfl) w226700 g0 sh_42 (by decide) rfl (by decide) (s_223 w226700 g0 ⟨by omega, by omega⟩) (fun R226706 T226707 H226708 p226709 => ?_))
    obtain ⟨e226710, w226712, f226713, z226715, e226711, b226716, p226714⟩ := p226709
    subst e226710
    subst e226711
    have f226717 := f226701.tr f226713 rfl
    show wp _ _ 292 17 [(0, .ref r0), (1, vL a1)] [vI z226715] _ H226708 _
    have k226718 : wKI H226708 r0 = wKI H r0 := ((wKI_fr w226700 g0 f226713 rfl).trans (wKI_fr hW g0 ((wfr.rf (l := [(42, 0)])).put' e226699 g0 rfl) rfl))
    exact wp_zreturn e292 c292_17 rfl (by omega) ⟨rfl, w226712, f226717, z226715, rfl, ⟨by omega, by omega⟩, by omega, by omega⟩
  · refine wp_of e292 c292_9 (rw_ifnonnull_r (p1 := 18) (p2 := 12) (by decide) rfl ?_)
    refine wp_of e292 c292_18 (rw_lload_n (pc' := 19) (z := a1) rfl rfl ?_)
    refine wp_of e292 c292_19 (rw_lstore_n (pc' := 20) (z := a1) (L' := [(3, vL a1), (0, .ref r0), (1, vL a1)]) rfl rfl rfl ?_)
    refine wp_of e292 c292_20 (rw_lload_n (pc' := 21) (z := a1) rfl rfl ?_)
    refine wp_of e292 c292_21 (rw_lconst (pc' := 22) (z := 0) rfl rfl ?_)
    refine wp_of e292 c292_22 (rw_lcmp (pc' := 23) rfl ⟨by omega, by omega⟩ ⟨by omega, by omega⟩ ?_)
    have b226719 := wq_cmp_b a1 0
    refine wp_of e292 c292_23 (rw_if_lt (p1 := 30) (p2 := 26) (by decide) rfl ⟨by omega, by omega⟩ (fun c226720 => ?_) (fun c226720 => ?_))
    · refine wp_of e292 c292_30 (rw_iconst (pc' := 31) rfl ?_)
      refine wp_of e292 c292_31 (rw_istore (pc' := 33) (z := 0) (L' := [(5, vI 0), (3, vL a1), (0, .ref r0), (1, vL a1)]) rfl rfl rfl ?_)
      refine wp_of e292 c292_33 (rw_aload_n (pc' := 34) (v := .ref r0) rfl rfl rfl ?_)
      refine wp_of e292 c292_34 (xg_K (pc' := 37) lf_9_337 w226700 g0 sh_42 (by decide) (by decide) rfl q226704 rfl ?_)
      refine wp_of e292 c292_37 (xg_I (pc' := 40) lf_9_188 w226700 g226705 sh_54 (by decide) (by decide) ty_54_3 rfl rfl (fun b226721 b226722 => ?_))
      refine wp_of e292 c292_40 (rw_iconst (pc' := 41) rfl ?_)
      refine wp_of e292 c292_41 (rw_isub (pc' := 42) rfl ?_)
      refine wp_of e292 c292_42 (rw_istore (pc' := 44) (z := (H226698 r226703 3) - 1) (L' := [(6, vI ((H226698 r226703 3) - 1)), (5, vI 0), (3, vL a1), (0, .ref r0), (1, vL a1)]) rfl rfl rfl ?_)
      have lp226725 : ∀ (n226726 : Nat) (v226728 : Int) (v226729 : Int) (v226730 : Int), ((-1) ≤ v226728 ∧ v226728 ≤ 5) → (0 ≤ v226729 ∧ v226729 ≤ 0) → ((-9223372036854775808) ≤ v226730 ∧ v226730 ≤ (-1)) → (v226729 = 0 ∨ 0 ≤ v226730) → 0 = n226726 → wp kt 2 292 44 [(6, vI v226728), (5, vI v226729), (3, vL v226730), (0, .ref r0)] [] T H226698 (q_292 r0 a1 T H) := by
        intro n226726
        induction n226726 using Nat.strongRecOn with
        | _ n226726 ih226727 =>
          intro v226728 v226729 v226730 b226733 b226734 b226735 x226736 m226737
          refine wp_of e292 c292_44 (rw_iload (pc' := 46) (z := v226728) rfl rfl ?_)
          refine wp_of e292 c292_46 (rw_if_lt (p1 := 113) (p2 := 49) (by decide) rfl ⟨by omega, by omega⟩ (fun c226738 => ?_) (fun c226738 => ?_))
          · refine wp_of e292 c292_113 (rw_iload (pc' := 115) (z := v226729) rfl rfl ?_)
            refine wp_of e292 c292_115 (rw_if_eq (p1 := 126) (p2 := 118) (by decide) rfl ⟨by omega, by omega⟩ (fun c226739 => ?_) (fun c226739 => ?_))
            · refine wp_of e292 c292_126 (rw_aload_n (pc' := 127) (v := .ref r0) rfl rfl rfl ?_)
              refine wp_of e292 c292_127 (rw_iconst (pc' := 128) rfl ?_)
              refine wp_of e292 c292_128 (xc_V (pc' := 131) (r := r0) (as := [vI 2]) (st := []) (lm_9_400) rfl rfl (Nat.le_of_ble_eq_true rfl) w226700 g0 sh_42 (by decide) rfl (by decide) (s_223 w226700 g0 ⟨by omega, by omega⟩) (fun R226740 T226741 H226742 p226743 => ?_))
              obtain ⟨e226744, w226746, f226747, z226749, e226745, b226750, p226748⟩ := p226743
              subst e226744
              subst e226745
              have f226751 := f226701.tr f226747 rfl
              show wp _ _ 292 131 [(6, vI v226728), (5, vI v226729), (3, vL v226730), (0, .ref r0)] [vI z226749] _ H226742 _
              have k226752 : wKI H226742 r0 = wKI H r0 := ((wKI_fr w226700 g0 f226747 rfl).trans (wKI_fr hW g0 ((wfr.rf (l := [(42, 0)])).put' e226699 g0 rfl) rfl))
              exact wp_zreturn e292 c292_131 rfl (by omega) ⟨rfl, w226746, f226751, z226749, rfl, ⟨by omega, by omega⟩, by omega, by omega⟩
            · exfalso
              omega
          · refine wp_of e292 c292_49 (rw_iload (pc' := 51) (z := v226729) rfl rfl ?_)
            refine wp_of e292 c292_51 (rw_if_eq (p1 := 113) (p2 := 54) (by decide) rfl ⟨by omega, by omega⟩ (fun c226753 => ?_) (fun c226753 => ?_))
            · refine wp_of e292 c292_113 (rw_iload (pc' := 115) (z := v226729) rfl rfl ?_)
              refine wp_of e292 c292_115 (rw_if_eq (p1 := 126) (p2 := 118) (by decide) rfl ⟨by omega, by omega⟩ (fun c226754 => ?_) (fun c226754 => ?_))
              · refine wp_of e292 c292_126 (rw_aload_n (pc' := 127) (v := .ref r0) rfl rfl rfl ?_)
                refine wp_of e292 c292_127 (rw_iconst (pc' := 128) rfl ?_)
                refine wp_of e292 c292_128 (xc_V (pc' := 131) (r := r0) (as := [vI 2]) (st := []) (lm_9_400) rfl rfl (Nat.le_of_ble_eq_true rfl) w226700 g0 sh_42 (by decide) rfl (by decide) (s_223 w226700 g0 ⟨by omega, by omega⟩) (fun R226755 T226756 H226757 p226758 => ?_))
                obtain ⟨e226759, w226761, f226762, z226764, e226760, b226765, p226763⟩ := p226758
                subst e226759
                subst e226760
                have f226766 := f226701.tr f226762 rfl
                show wp _ _ 292 131 [(6, vI v226728), (5, vI v226729), (3, vL v226730), (0, .ref r0)] [vI z226764] _ H226757 _
                have k226767 : wKI H226757 r0 = wKI H r0 := ((wKI_fr w226700 g0 f226762 rfl).trans (wKI_fr hW g0 ((wfr.rf (l := [(42, 0)])).put' e226699 g0 rfl) rfl))
                exact wp_zreturn e292 c292_131 rfl (by omega) ⟨rfl, w226761, f226766, z226764, rfl, ⟨by omega, by omega⟩, by omega, by omega⟩
              · exfalso
                omega
            · exfalso
              omega
      exact wp_lc (ks := [6, 5, 3, 0, 1]) (wl_c rfl (wl_c rfl (wl_c rfl (wl_c rfl wl_n)))) rfl (by decide) (lp226725 _ ((H226698 r226703 3) - 1) 0 a1 ⟨by omega, by omega⟩ ⟨by omega, by omega⟩ ⟨by omega, by omega⟩ (by omega) rfl)
    · refine wp_of e292 c292_26 (rw_iconst (pc' := 27) rfl ?_)
      refine wp_of e292 c292_27 (rw_goto (p1 := 31) (by decide) ?_)
      refine wp_of e292 c292_31 (rw_istore (pc' := 33) (z := 1) (L' := [(5, vI 1), (3, vL a1), (0, .ref r0), (1, vL a1)]) rfl rfl rfl ?_)
      refine wp_of e292 c292_33 (rw_aload_n (pc' := 34) (v := .ref r0) rfl rfl rfl ?_)
      refine wp_of e292 c292_34 (xg_K (pc' := 37) lf_9_337 w226700 g0 sh_42 (by decide) (by decide) rfl q226704 rfl ?_)
      refine wp_of e292 c292_37 (xg_I (pc' := 40) lf_9_188 w226700 g226705 sh_54 (by decide) (by decide) ty_54_3 rfl rfl (fun b226768 b226769 => ?_))
      refine wp_of e292 c292_40 (rw_iconst (pc' := 41) rfl ?_)
      refine wp_of e292 c292_41 (rw_isub (pc' := 42) rfl ?_)
      refine wp_of e292 c292_42 (rw_istore (pc' := 44) (z := (H226698 r226703 3) - 1) (L' := [(6, vI ((H226698 r226703 3) - 1)), (5, vI 1), (3, vL a1), (0, .ref r0), (1, vL a1)]) rfl rfl rfl ?_)
      have lp226834 : ∀ (n226835 : Nat) (v226837 : Int) (v226838 : Int) (v226839 : Int) (H226840 : wq_H), WT T H226840 → wfr [(53, 999)] T H226698 H226840 → ((-1) ≤ v226837 ∧ v226837 ≤ 5) → (0 ≤ v226838 ∧ v226838 ≤ 1) → (0 ≤ v226839 ∧ v226839 ≤ 9223372036854775807) → (v226838 = 0 ∨ 0 ≤ v226839) → (v226837 - (-1)).toNat = n226835 → wp kt 2 292 44 [(6, vI v226837), (5, vI v226838), (3, vL v226839), (0, .ref r0)] [] T H226840 (q_292 r0 a1 T H) := by
        intro n226835
        induction n226835 using Nat.strongRecOn with
        | _ n226835 ih226836 =>
          intro v226837 v226838 v226839 H226840 w226841 f226842 b226843 b226844 b226845 x226846 m226847
          have f226848 := f226701.tr f226842 rfl
          refine wp_of e292 c292_44 (rw_iload (pc' := 46) (z := v226837) rfl rfl ?_)
          refine wp_of e292 c292_46 (rw_if_lt (p1 := 113) (p2 := 49) (by decide) rfl ⟨by omega, by omega⟩ (fun c226849 => ?_) (fun c226849 => ?_))
          · refine wp_of e292 c292_113 (rw_iload (pc' := 115) (z := v226838) rfl rfl ?_)
            refine wp_of e292 c292_115 (rw_if_eq (p1 := 126) (p2 := 118) (by decide) rfl ⟨by omega, by omega⟩ (fun c226850 => ?_) (fun c226850 => ?_))
            · refine wp_of e292 c292_126 (rw_aload_n (pc' := 127) (v := .ref r0) rfl rfl rfl ?_)
              refine wp_of e292 c292_127 (rw_iconst (pc' := 128) rfl ?_)
              refine wp_of e292 c292_128 (xc_V (pc' := 131) (r := r0) (as := [vI 2]) (st := []) (lm_9_400) rfl rfl (Nat.le_of_ble_eq_true rfl) w226841 g0 sh_42 (by decide) rfl (by decide) (s_223 w226841 g0 ⟨by omega, by omega⟩) (fun R226851 T226852 H226853 p226854 => ?_))
              obtain ⟨e226855, w226857, f226858, z226860, e226856, b226861, p226859⟩ := p226854
              subst e226855
              subst e226856
              have f226862 := f226848.tr f226858 rfl
              show wp _ _ 292 131 [(6, vI v226837), (5, vI v226838), (3, vL v226839), (0, .ref r0)] [vI z226860] _ H226853 _
              have k226863 : wKI H226853 r0 = wKI H r0 := ((wKI_fr w226841 g0 f226858 rfl).trans ((wKI_fr w226700 g0 f226842 rfl).trans (wKI_fr hW g0 ((wfr.rf (l := [(42, 0)])).put' e226699 g0 rfl) rfl)))
              exact wp_zreturn e292 c292_131 rfl (by omega) ⟨rfl, w226857, f226862, z226860, rfl, ⟨by omega, by omega⟩, by omega, by omega⟩
            · refine wp_of e292 c292_118 (rw_lload_n (pc' := 119) (z := v226839) rfl rfl ?_)
              refine wp_of e292 c292_119 (rw_ldc2 (pc' := 122) (z := 20000) rfl rfl rfl ?_)
              refine wp_of e292 c292_122 (rw_lcmp (pc' := 123) rfl ⟨by omega, by omega⟩ ⟨by omega, by omega⟩ ?_)
              have b226864 := wq_cmp_b v226839 20000
              refine wp_of e292 c292_123 (rw_if_le (p1 := 132) (p2 := 126) (by decide) rfl ⟨by omega, by omega⟩ (fun c226865 => ?_) (fun c226865 => ?_))
              · refine wp_of e292 c292_132 (rw_iconst (pc' := 133) rfl ?_)
                refine wp_of e292 c292_133 (rw_istore (pc' := 135) (z := 0) (L' := [(6, vI 0), (5, vI v226838), (3, vL v226839), (0, .ref r0)]) rfl rfl rfl ?_)
                have lp226992 : ∀ (n226993 : Nat) (v226995 : Int) (H226996 : wq_H), WT T H226996 → wfr [(50, 999)] T H226840 H226996 → (0 ≤ v226995 ∧ v226995 ≤ 6) → (6 - v226995).toNat = n226993 → wp kt 2 292 135 [(6, vI v226995), (3, vL v226839), (0, .ref r0)] [] T H226996 (q_292 r0 a1 T H) := by
                  intro n226993
                  induction n226993 using Nat.strongRecOn with
                  | _ n226993 ih226994 =>
                    intro v226995 H226996 w226997 f226998 b226999 m227000
                    have f227001 := f226848.tr f226998 rfl
                    refine wp_of e292 c292_135 (rw_iload (pc' := 137) (z := v226995) rfl rfl ?_)
                    refine wp_of e292 c292_137 (rw_aload_n (pc' := 138) (v := .ref r0) rfl rfl rfl ?_)
                    have k227002 : H226996 r0 3 = H226698 r0 3 := ((f226998 r0 3 _ g0 rfl).trans (f226842 r0 3 _ g0 rfl))
                    have q227003 : H226996 r0 3 = (r226703 : Int) := k227002.trans q226704
                    refine wp_of e292 c292_138 (xg_K (pc' := 141) lf_9_337 w226997 g0 sh_42 (by decide) (by decide) rfl q227003 rfl ?_)
                    have k227004 : H226996 r226703 3 = H226698 r226703 3 := ((f226998 r226703 3 _ g226705 rfl).trans (f226842 r226703 3 _ g226705 rfl))
                    refine wp_of e292 c292_141 (xg_I (pc' := 144) lf_9_188 w226997 g226705 sh_54 (by decide) (by decide) ty_54_3 rfl rfl (fun b227005 b227006 => ?_))
                    refine wp_of e292 c292_144 (rw_icmp_ge (p1 := 167) (p2 := 147) (by decide) rfl ⟨by omega, by omega⟩ ⟨by omega, by omega⟩ (fun c227007 => ?_) (fun c227007 => ?_))
                    · refine wp_of e292 c292_167 (rw_aload_n (pc' := 168) (v := .ref r0) rfl rfl rfl ?_)
                      refine wp_of e292 c292_168 (rw_lload_n (pc' := 169) (z := v226839) rfl rfl ?_)
                      refine wp_of e292 c292_169 (rw_l2i (pc' := 170) rfl ?_)
                      obtain ⟨v227008, e227009⟩ : ∃ x : Int, x = wq_w v226839 := ⟨_, rfl⟩
                      rw [← e227009]
                      have b227010 : v227008 = v226839 := by
                        rw [e227009]
                        exact wq_w_id ⟨by omega, by omega⟩
                      refine wp_of e292 c292_170 (xp_I (pc' := 173) lf_9_340 w226997 g0 sh_42 (by decide) (by decide) ty_42_32 rfl rfl (by omega) (by omega) ⟨by omega, by omega⟩ rfl (fun H227011 e227012 w227013 => ?_))
                      have f227014 := f227001.put' e227012 g0 rfl
                      have k227015 : H227011 r0 32 = v227008 := wq_u_s e227012
                      refine wp_of e292 c292_173 (rw_aload_n (pc' := 174) (v := .ref r0) rfl rfl rfl ?_)
                      refine wp_of e292 c292_174 (xc_V (pc' := 177) (r := r0) (as := []) (st := []) (lm_9_403) rfl rfl (Nat.le_of_ble_eq_true rfl) w227013 g0 sh_42 (by decide) rfl (by decide) (s_224 w227013 g0) (fun R227016 T227017 H227018 p227019 => ?_))
                      obtain ⟨e227020, w227022, f227023, z227025, e227021, b227026, p227024⟩ := p227019
                      subst e227020
                      subst e227021
                      have f227027 := f227014.tr f227023 rfl
                      show wp _ _ 292 177 [(6, vI v226995), (3, vL v226839), (0, .ref r0)] [vI z227025] _ H227018 _
                      have k227028 : wKI H227018 r0 = wKI H r0 := ((wKI_fr w227013 g0 f227023 rfl).trans ((wKI_fr w226997 g0 ((wfr.rf (l := [(42, 32)])).put' e227012 g0 rfl) rfl).trans ((wKI_fr w226841 g0 f226998 rfl).trans ((wKI_fr w226700 g0 f226842 rfl).trans (wKI_fr hW g0 ((wfr.rf (l := [(42, 0)])).put' e226699 g0 rfl) rfl)))))
                      exact wp_zreturn e292 c292_177 rfl (by omega) ⟨rfl, w227022, f227027, z227025, rfl, ⟨by omega, by omega⟩, by omega, by omega⟩
                    · refine wp_of e292 c292_147 (rw_aload_n (pc' := 148) (v := .ref r0) rfl rfl rfl ?_)
                      refine wp_of e292 c292_148 (xg_R (pc' := 151) lf_9_36 w226997 g0 sh_42 (by decide) (by decide) ty_42_26 rfl rfl (fun r227029 q227030 g227031 => ?_))
                      refine wp_of e292 c292_151 (rw_iload (pc' := 153) (z := v226995) rfl rfl ?_)
                      refine wp_of e292 c292_153 (rw_aload_n (pc' := 154) (v := .ref r0) rfl rfl rfl ?_)
                      refine wp_of e292 c292_154 (xg_R (pc' := 157) lf_9_45 w226997 g0 sh_42 (by decide) (by decide) ty_42_31 rfl rfl (fun r227032 q227033 g227034 => ?_))
                      refine wp_of e292 c292_157 (rw_iload (pc' := 159) (z := v226995) rfl rfl ?_)
                      refine wp_of e292 c292_159 (xa_I (so := 0) (pc' := 160) w226997 g227034 sh_53 (by decide) (ty_53 _) (by omega) (by omega) rfl (fun b227035 b227036 => ?_))
                      refine wp_of e292 c292_160 (xs_I (pc' := 161) w226997 g227031 (by decide) sh_50 (by decide) (ty_50 _) (by omega) (by omega) ⟨by omega, by omega⟩ (by omega) (by omega) rfl (fun H227037 e227038 w227039 => ?_))
                      have f227040 := f227001.put' e227038 g227031 rfl
                      have f227041 := f226998.put' e227038 g227031 rfl
                      refine wp_of e292 c292_161 (rw_iinc (pc' := 164) (z := v226995) (L' := [(6, vI (v226995 + 1)), (3, vL v226839), (0, .ref r0)]) rfl rfl rfl rfl ?_)
                      refine wp_of e292 c292_164 (rw_goto (p1 := 135) (by decide) ?_)
                      exact wp_lc (ks := [6, 3, 0]) (wl_c rfl (wl_c rfl (wl_c rfl wl_n))) rfl (by decide) (ih226994 _ (by omega) (v226995 + 1) H227037 w227039 f227041 ⟨by omega, by omega⟩ rfl)
                exact wp_lc (ks := [6, 5, 3, 0]) (wl_c rfl (wl_c rfl (wl_c rfl wl_n))) rfl (by decide) (lp226992 _ 0 H226840 w226841 wfr.rf ⟨by omega, by omega⟩ rfl)
              · refine wp_of e292 c292_126 (rw_aload_n (pc' := 127) (v := .ref r0) rfl rfl rfl ?_)
                refine wp_of e292 c292_127 (rw_iconst (pc' := 128) rfl ?_)
                refine wp_of e292 c292_128 (xc_V (pc' := 131) (r := r0) (as := [vI 2]) (st := []) (lm_9_400) rfl rfl (Nat.le_of_ble_eq_true rfl) w226841 g0 sh_42 (by decide) rfl (by decide) (s_223 w226841 g0 ⟨by omega, by omega⟩) (fun R227042 T227043 H227044 p227045 => ?_))
                obtain ⟨e227046, w227048, f227049, z227051, e227047, b227052, p227050⟩ := p227045
                subst e227046
                subst e227047
                have f227053 := f226848.tr f227049 rfl
                show wp _ _ 292 131 [(6, vI v226837), (5, vI v226838), (3, vL v226839), (0, .ref r0)] [vI z227051] _ H227044 _
                have k227054 : wKI H227044 r0 = wKI H r0 := ((wKI_fr w226841 g0 f227049 rfl).trans ((wKI_fr w226700 g0 f226842 rfl).trans (wKI_fr hW g0 ((wfr.rf (l := [(42, 0)])).put' e226699 g0 rfl) rfl)))
                exact wp_zreturn e292 c292_131 rfl (by omega) ⟨rfl, w227048, f227053, z227051, rfl, ⟨by omega, by omega⟩, by omega, by omega⟩
          · refine wp_of e292 c292_49 (rw_iload (pc' := 51) (z := v226838) rfl rfl ?_)
            refine wp_of e292 c292_51 (rw_if_eq (p1 := 113) (p2 := 54) (by decide) rfl ⟨by omega, by omega⟩ (fun c227055 => ?_) (fun c227055 => ?_))
            · refine wp_of e292 c292_113 (rw_iload (pc' := 115) (z := v226838) rfl rfl ?_)
              refine wp_of e292 c292_115 (rw_if_eq (p1 := 126) (p2 := 118) (by decide) rfl ⟨by omega, by omega⟩ (fun c227056 => ?_) (fun c227056 => ?_))
              · refine wp_of e292 c292_126 (rw_aload_n (pc' := 127) (v := .ref r0) rfl rfl rfl ?_)
                refine wp_of e292 c292_127 (rw_iconst (pc' := 128) rfl ?_)
                refine wp_of e292 c292_128 (xc_V (pc' := 131) (r := r0) (as := [vI 2]) (st := []) (lm_9_400) rfl rfl (Nat.le_of_ble_eq_true rfl) w226841 g0 sh_42 (by decide) rfl (by decide) (s_223 w226841 g0 ⟨by omega, by omega⟩) (fun R227057 T227058 H227059 p227060 => ?_))
                obtain ⟨e227061, w227063, f227064, z227066, e227062, b227067, p227065⟩ := p227060
                subst e227061
                subst e227062
                have f227068 := f226848.tr f227064 rfl
                show wp _ _ 292 131 [(6, vI v226837), (5, vI v226838), (3, vL v226839), (0, .ref r0)] [vI z227066] _ H227059 _
                have k227069 : wKI H227059 r0 = wKI H r0 := ((wKI_fr w226841 g0 f227064 rfl).trans ((wKI_fr w226700 g0 f226842 rfl).trans (wKI_fr hW g0 ((wfr.rf (l := [(42, 0)])).put' e226699 g0 rfl) rfl)))
                exact wp_zreturn e292 c292_131 rfl (by omega) ⟨rfl, w227063, f227068, z227066, rfl, ⟨by omega, by omega⟩, by omega, by omega⟩
              · exfalso
                omega
            · refine wp_of e292 c292_54 (rw_aload_n (pc' := 55) (v := .ref r0) rfl rfl rfl ?_)
              refine wp_of e292 c292_55 (xg_R (pc' := 58) lf_9_45 w226841 g0 sh_42 (by decide) (by decide) ty_42_31 rfl rfl (fun r227070 q227071 g227072 => ?_))
              refine wp_of e292 c292_58 (rw_iload (pc' := 60) (z := v226837) rfl rfl ?_)
              refine wp_of e292 c292_60 (rw_lload_n (pc' := 61) (z := v226839) rfl rfl ?_)
              refine wp_of e292 c292_61 (rw_ldc2 (pc' := 64) (z := 40) rfl rfl rfl ?_)
              refine wp_of e292 c292_64 (rw_lrem (pc' := 65) rfl ⟨by omega, by omega⟩ (by omega) ?_)
              obtain ⟨v227073, e227074⟩ : ∃ x : Int, x = wl_rem v226839 40 := ⟨_, rfl⟩
              rw [← e227074]
              have b227075 : v227073 = v226839 % 40 := by
                rw [e227074]
                exact wl_rem_e ⟨by omega, by omega⟩ ⟨by omega, by omega⟩
              refine wp_of e292 c292_65 (rw_l2i (pc' := 66) rfl ?_)
              obtain ⟨v227076, e227077⟩ : ∃ x : Int, x = wq_w v227073 := ⟨_, rfl⟩
              rw [← e227077]
              have b227078 : v227076 = v227073 := by
                rw [e227077]
                exact wq_w_id ⟨by omega, by omega⟩
              refine wp_of e292 c292_66 (xs_I (pc' := 67) w226841 g227072 (by decide) sh_53 (by decide) (ty_53 _) (by omega) (by omega) ⟨by omega, by omega⟩ (by omega) (by omega) rfl (fun H227079 e227080 w227081 => ?_))
              have f227082 := f226848.put' e227080 g227072 rfl
              have f227083 := f226842.put' e227080 g227072 rfl
              refine wp_of e292 c292_67 (rw_aload_n (pc' := 68) (v := .ref r0) rfl rfl rfl ?_)
              have k227084 : H227079 r0 31 = H226840 r0 31 := (wq_u_t e227080 g227072 g0 rfl 31)
              have q227085 : H227079 r0 31 = (r227070 : Int) := k227084.trans q227071
              refine wp_of e292 c292_68 (xg_K (pc' := 71) lf_9_45 w227081 g0 sh_42 (by decide) (by decide) rfl q227085 rfl ?_)
              refine wp_of e292 c292_71 (rw_iload (pc' := 73) (z := v226837) rfl rfl ?_)
              refine wp_of e292 c292_73 (xa_I (so := 0) (pc' := 74) w227081 g227072 sh_53 (by decide) (ty_53 _) (by omega) (by omega) rfl (fun b227086 b227087 => ?_))
              refine wp_of e292 c292_74 (rw_if_eq (p1 := 94) (p2 := 77) (by decide) rfl ⟨by omega, by omega⟩ (fun c227088 => ?_) (fun c227088 => ?_))
              · refine wp_of e292 c292_94 (rw_iconst (pc' := 95) rfl ?_)
                refine wp_of e292 c292_95 (rw_goto (p1 := 99) (by decide) ?_)
                refine wp_of e292 c292_99 (rw_istore (pc' := 101) (z := 1) (L' := [(5, vI 1), (6, vI v226837), (3, vL v226839), (0, .ref r0)]) rfl rfl rfl ?_)
                refine wp_of e292 c292_101 (rw_lload_n (pc' := 102) (z := v226839) rfl rfl ?_)
                refine wp_of e292 c292_102 (rw_ldc2 (pc' := 105) (z := 40) rfl rfl rfl ?_)
                refine wp_of e292 c292_105 (rw_ldiv (pc' := 106) rfl ⟨by omega, by omega⟩ (by omega) ?_)
                obtain ⟨v227089, e227090⟩ : ∃ x : Int, x = wl_div v226839 40 := ⟨_, rfl⟩
                rw [← e227090]
                have b227091 : v227089 = v226839 / 40 := by
                  rw [e227090]
                  exact wl_div_e ⟨by omega, by omega⟩ ⟨by omega, by omega⟩
                refine wp_of e292 c292_106 (rw_lstore_n (pc' := 107) (z := v227089) (L' := [(3, vL v227089), (5, vI 1), (6, vI v226837), (0, .ref r0)]) rfl rfl rfl ?_)
                refine wp_of e292 c292_107 (rw_iinc (pc' := 110) (z := v226837) (L' := [(6, vI (v226837 + (-1))), (3, vL v227089), (5, vI 1), (0, .ref r0)]) rfl rfl rfl rfl ?_)
                refine wp_of e292 c292_110 (rw_goto (p1 := 44) (by decide) ?_)
                exact wp_lc (ks := [6, 3, 5, 0]) (wl_c rfl (wl_c rfl (wl_c rfl (wl_c rfl wl_n)))) rfl (by decide) (ih226836 _ (by omega) (v226837 + (-1)) 1 v227089 H227079 w227081 f227083 ⟨by omega, by omega⟩ ⟨by omega, by omega⟩ ⟨by omega, by omega⟩ (by omega) rfl)
              · refine wp_of e292 c292_77 (rw_aload_n (pc' := 78) (v := .ref r0) rfl rfl rfl ?_)
                refine wp_of e292 c292_78 (xg_K (pc' := 81) lf_9_45 w227081 g0 sh_42 (by decide) (by decide) rfl q227085 rfl ?_)
                refine wp_of e292 c292_81 (rw_iload (pc' := 83) (z := v226837) rfl rfl ?_)
                refine wp_of e292 c292_83 (xa_I (so := 0) (pc' := 84) w227081 g227072 sh_53 (by decide) (ty_53 _) (by omega) (by omega) rfl (fun b227092 b227093 => ?_))
                refine wp_of e292 c292_84 (rw_aload_n (pc' := 85) (v := .ref r0) rfl rfl rfl ?_)
                refine wp_of e292 c292_85 (xg_R (pc' := 88) lf_9_21 w227081 g0 sh_42 (by decide) (by decide) ty_42_21 rfl rfl (fun r227094 q227095 g227096 => ?_))
                refine wp_of e292 c292_88 (rw_iload (pc' := 90) (z := v226837) rfl rfl ?_)
                refine wp_of e292 c292_90 (xa_I (so := 0) (pc' := 91) w227081 g227096 sh_45 (by decide) (ty_45 _) (by omega) (by omega) rfl (fun b227097 b227098 => ?_))
                refine wp_of e292 c292_91 (rw_icmp_ge (p1 := 98) (p2 := 94) (by decide) rfl ⟨by omega, by omega⟩ ⟨by omega, by omega⟩ (fun c227099 => ?_) (fun c227099 => ?_))
                · refine wp_of e292 c292_98 (rw_iconst (pc' := 99) rfl ?_)
                  refine wp_of e292 c292_99 (rw_istore (pc' := 101) (z := 0) (L' := [(5, vI 0), (6, vI v226837), (3, vL v226839), (0, .ref r0)]) rfl rfl rfl ?_)
                  refine wp_of e292 c292_101 (rw_lload_n (pc' := 102) (z := v226839) rfl rfl ?_)
                  refine wp_of e292 c292_102 (rw_ldc2 (pc' := 105) (z := 40) rfl rfl rfl ?_)
                  refine wp_of e292 c292_105 (rw_ldiv (pc' := 106) rfl ⟨by omega, by omega⟩ (by omega) ?_)
                  obtain ⟨v227100, e227101⟩ : ∃ x : Int, x = wl_div v226839 40 := ⟨_, rfl⟩
                  rw [← e227101]
                  have b227102 : v227100 = v226839 / 40 := by
                    rw [e227101]
                    exact wl_div_e ⟨by omega, by omega⟩ ⟨by omega, by omega⟩
                  refine wp_of e292 c292_106 (rw_lstore_n (pc' := 107) (z := v227100) (L' := [(3, vL v227100), (5, vI 0), (6, vI v226837), (0, .ref r0)]) rfl rfl rfl ?_)
                  refine wp_of e292 c292_107 (rw_iinc (pc' := 110) (z := v226837) (L' := [(6, vI (v226837 + (-1))), (3, vL v227100), (5, vI 0), (0, .ref r0)]) rfl rfl rfl rfl ?_)
                  refine wp_of e292 c292_110 (rw_goto (p1 := 44) (by decide) ?_)
                  exact wp_lc (ks := [6, 3, 5, 0]) (wl_c rfl (wl_c rfl (wl_c rfl (wl_c rfl wl_n)))) rfl (by decide) (ih226836 _ (by omega) (v226837 + (-1)) 0 v227100 H227079 w227081 f227083 ⟨by omega, by omega⟩ ⟨by omega, by omega⟩ ⟨by omega, by omega⟩ (by omega) rfl)
                · refine wp_of e292 c292_94 (rw_iconst (pc' := 95) rfl ?_)
                  refine wp_of e292 c292_95 (rw_goto (p1 := 99) (by decide) ?_)
                  refine wp_of e292 c292_99 (rw_istore (pc' := 101) (z := 1) (L' := [(5, vI 1), (6, vI v226837), (3, vL v226839), (0, .ref r0)]) rfl rfl rfl ?_)
                  refine wp_of e292 c292_101 (rw_lload_n (pc' := 102) (z := v226839) rfl rfl ?_)
                  refine wp_of e292 c292_102 (rw_ldc2 (pc' := 105) (z := 40) rfl rfl rfl ?_)
                  refine wp_of e292 c292_105 (rw_ldiv (pc' := 106) rfl ⟨by omega, by omega⟩ (by omega) ?_)
                  obtain ⟨v227103, e227104⟩ : ∃ x : Int, x = wl_div v226839 40 := ⟨_, rfl⟩
                  rw [← e227104]
                  have b227105 : v227103 = v226839 / 40 := by
                    rw [e227104]
                    exact wl_div_e ⟨by omega, by omega⟩ ⟨by omega, by omega⟩
                  refine wp_of e292 c292_106 (rw_lstore_n (pc' := 107) (z := v227103) (L' := [(3, vL v227103), (5, vI 1), (6, vI v226837), (0, .ref r0)]) rfl rfl rfl ?_)
                  refine wp_of e292 c292_107 (rw_iinc (pc' := 110) (z := v226837) (L' := [(6, vI (v226837 + (-1))), (3, vL v227103), (5, vI 1), (0, .ref r0)]) rfl rfl rfl rfl ?_)
                  refine wp_of e292 c292_110 (rw_goto (p1 := 44) (by decide) ?_)
                  exact wp_lc (ks := [6, 3, 5, 0]) (wl_c rfl (wl_c rfl (wl_c rfl (wl_c rfl wl_n)))) rfl (by decide) (ih226836 _ (by omega) (v226837 + (-1)) 1 v227103 H227079 w227081 f227083 ⟨by omega, by omega⟩ ⟨by omega, by omega⟩ ⟨by omega, by omega⟩ (by omega) rfl)
      exact wp_lc (ks := [6, 5, 3, 0, 1]) (wl_c rfl (wl_c rfl (wl_c rfl (wl_c rfl wl_n)))) rfl (by decide) (lp226834 _ ((H226698 r226703 3) - 1) 1 a1 H226698 w226700 wfr.rf ⟨by omega, by omega⟩ ⟨by omega, by omega⟩ ⟨by omega, by omega⟩ (by omega) rfl)
/-! StrikeAwakeModel.led(I)I -/
theorem e293 : wq_en 293 = some (9, 4, false, some FieldType.int) := rfl
theorem c293_0 : mc_cd 293 0 = some (.aload_n 0, 1) := by decide +kernel
theorem c293_1 : mc_cd 293 1 = some (.iconst 0, 1) := by decide +kernel
theorem c293_2 : mc_cd 293 2 = some (.putfield 48, 3) := by decide +kernel
theorem c293_5 : mc_cd 293 5 = some (.iconst 0, 1) := by decide +kernel
theorem c293_6 : mc_cd 293 6 = some (.istore_n 2, 1) := by decide +kernel
theorem c293_7 : mc_cd 293 7 = some (.iconst 0, 1) := by decide +kernel
theorem c293_8 : mc_cd 293 8 = some (.istore_n 3, 1) := by decide +kernel
theorem c293_9 : mc_cd 293 9 = some (.aload_n 0, 1) := by decide +kernel
theorem c293_10 : mc_cd 293 10 = some (.getfield 337, 3) := by decide +kernel
theorem c293_13 : mc_cd 293 13 = some (.ifnull 45, 3) := by decide +kernel
theorem c293_16 : mc_cd 293 16 = some (.iload_n 3, 1) := by decide +kernel
theorem c293_17 : mc_cd 293 17 = some (.aload_n 0, 1) := by decide +kernel
theorem c293_18 : mc_cd 293 18 = some (.getfield 337, 3) := by decide +kernel
theorem c293_21 : mc_cd 293 21 = some (.getfield 188, 3) := by decide +kernel
theorem c293_24 : mc_cd 293 24 = some (.if_icmp .ge 34, 3) := by decide +kernel
theorem c293_27 : mc_cd 293 27 = some (.aload_n 0, 1) := by decide +kernel
theorem c293_28 : mc_cd 293 28 = some (.getfield 337, 3) := by decide +kernel
theorem c293_31 : mc_cd 293 31 = some (.getfield 267, 3) := by decide +kernel
theorem c293_34 : mc_cd 293 34 = some (.iload_n 3, 1) := by decide +kernel
theorem c293_35 : mc_cd 293 35 = some (.baload, 1) := by decide +kernel
theorem c293_36 : mc_cd 293 36 = some (.ifCond .ne 6, 3) := by decide +kernel
theorem c293_39 : mc_cd 293 39 = some (.goto 13, 3) := by decide +kernel
theorem c293_42 : mc_cd 293 42 = some (.iload_n 2, 1) := by decide +kernel
theorem c293_43 : mc_cd 293 43 = some (.iload_n 1, 1) := by decide +kernel
theorem c293_44 : mc_cd 293 44 = some (.if_icmp .ne 5, 3) := by decide +kernel
theorem c293_47 : mc_cd 293 47 = some (.iload_n 3, 1) := by decide +kernel
theorem c293_48 : mc_cd 293 48 = some (.ireturn, 1) := by decide +kernel
theorem c293_49 : mc_cd 293 49 = some (.iinc 2 1, 3) := by decide +kernel
theorem c293_52 : mc_cd 293 52 = some (.iinc 3 1, 3) := by decide +kernel
theorem c293_55 : mc_cd 293 55 = some (.goto (-46), 3) := by decide +kernel
theorem c293_58 : mc_cd 293 58 = some (.aload_n 0, 1) := by decide +kernel
theorem c293_59 : mc_cd 293 59 = some (.iconst 1, 1) := by decide +kernel
theorem c293_60 : mc_cd 293 60 = some (.putfield 48, 3) := by decide +kernel
theorem c293_63 : mc_cd 293 63 = some (.iconst 0, 1) := by decide +kernel
theorem c293_64 : mc_cd 293 64 = some (.ireturn, 1) := by decide +kernel
abbrev q_293 (r0 : Nat) (a1 : Int) (T : wq_T) (H : wq_H) : Option Value → wq_T → wq_H → Prop := fun r T' H' => T = T' ∧ WT T H' ∧ wfr [(42, 0)] T H H' ∧ ∃ z : Int, some (vI z) = r ∧ ((-2147483648) ≤ z ∧ z ≤ 2147483647) ∧ (wKI H' r0 = 1)
set_option maxHeartbeats 4000000 in
theorem s_293 {kt : Nat → Option mc_E} {T : wq_T} {H : wq_H} {r0 : Nat} {a1 : Int} (hW : WT T H) (g0 : T.2.2.2 r0 = some 42) (i1 : (-2147483648) ≤ a1 ∧ a1 ≤ 2147483647) (p0 : wKI H r0 = 1) : wpc kt 1 293 [.ref r0, vI a1] T H (q_293 r0 a1 T H) := by
  refine wp_enter e293 (Nat.le_of_ble_eq_true rfl) rfl ?_
  have f0 : wfr [(42, 0)] T H H := wfr.rf
  show wp _ _ 293 0 [(0, .ref r0), (1, vI a1)] [] _ H _
  refine wp_of e293 c293_0 (rw_aload_n (pc' := 1) (v := .ref r0) rfl rfl rfl ?_)
  refine wp_of e293 c293_1 (rw_iconst (pc' := 2) rfl ?_)
  refine wp_of e293 c293_2 (xp_I (pc' := 5) lf_9_48 hW g0 sh_42 (by decide) (by decide) ty_42_0 rfl rfl (by omega) (by omega) ⟨by omega, by omega⟩ rfl (fun H227229 e227230 w227231 => ?_))
  have f227232 := f0.put' e227230 g0 rfl
  have k227233 : H227229 r0 0 = 0 := wq_u_s e227230
  refine wp_of e293 c293_5 (rw_iconst (pc' := 6) rfl ?_)
  refine wp_of e293 c293_6 (rw_istore_n (pc' := 7) (z := 0) (L' := [(2, vI 0), (0, .ref r0), (1, vI a1)]) rfl rfl rfl ?_)
  refine wp_of e293 c293_7 (rw_iconst (pc' := 8) rfl ?_)
  refine wp_of e293 c293_8 (rw_istore_n (pc' := 9) (z := 0) (L' := [(3, vI 0), (2, vI 0), (0, .ref r0), (1, vI a1)]) rfl rfl rfl ?_)
  have lp227325 : ∀ (n227326 : Nat) (v227328 : Int) (v227329 : Int), (0 ≤ v227328 ∧ v227328 ≤ 6) → (0 ≤ v227329 ∧ v227329 ≤ 6) → (v227329 ≤ v227328) → (6 - v227328).toNat = n227326 → wp kt 0 293 9 [(3, vI v227328), (2, vI v227329), (0, .ref r0), (1, vI a1)] [] T H227229 (q_293 r0 a1 T H) := by
    intro n227326
    induction n227326 using Nat.strongRecOn with
    | _ n227326 ih227327 =>
      intro v227328 v227329 b227332 b227333 x227334 m227335
      refine wp_of e293 c293_9 (rw_aload_n (pc' := 10) (v := .ref r0) rfl rfl rfl ?_)
      refine wp_of e293 c293_10 (xg_O (pc' := 13) lf_9_337 w227231 g0 sh_42 (by decide) (by decide) ty_42_3 rfl rfl (fun q227337 => ?_) (fun r227336 q227337 g227338 => ?_))
      · refine wp_of e293 c293_13 (rw_ifnull_n (p1 := 58) (p2 := 16) (by decide) rfl ?_)
        refine wp_of e293 c293_58 (rw_aload_n (pc' := 59) (v := .ref r0) rfl rfl rfl ?_)
        refine wp_of e293 c293_59 (rw_iconst (pc' := 60) rfl ?_)
        refine wp_of e293 c293_60 (xp_I (pc' := 63) lf_9_48 w227231 g0 sh_42 (by decide) (by decide) ty_42_0 rfl rfl (by omega) (by omega) ⟨by omega, by omega⟩ rfl (fun H227339 e227340 w227341 => ?_))
        have f227342 := f227232.put' e227340 g0 rfl
        have k227343 : H227339 r0 0 = 1 := wq_u_s e227340
        refine wp_of e293 c293_63 (rw_iconst (pc' := 64) rfl ?_)
        have k227344 : wKI H227339 r0 = wKI H r0 := ((wKI_fr w227231 g0 ((wfr.rf (l := [(42, 0)])).put' e227340 g0 rfl) rfl).trans (wKI_fr hW g0 ((wfr.rf (l := [(42, 0)])).put' e227230 g0 rfl) rfl))
        exact wp_ireturn e293 c293_64 rfl ⟨rfl, w227341, f227342, 0, rfl, ⟨by omega, by omega⟩, by omega⟩
      · refine wp_of e293 c293_13 (rw_ifnull_r (p1 := 58) (p2 := 16) (by decide) rfl ?_)
        refine wp_of e293 c293_16 (rw_iload_n (pc' := 17) (z := v227328) rfl rfl ?_)
        refine wp_of e293 c293_17 (rw_aload_n (pc' := 18) (v := .ref r0) rfl rfl rfl ?_)
        refine wp_of e293 c293_18 (xg_K (pc' := 21) lf_9_337 w227231 g0 sh_42 (by decide) (by decide) rfl q227337 rfl ?_)
        refine wp_of e293 c293_21 (xg_I (pc' := 24) lf_9_188 w227231 g227338 sh_54 (by decide) (by decide) ty_54_3 rfl rfl (fun b227345 b227346 => ?_))
        refine wp_of e293 c293_24 (rw_icmp_ge (p1 := 58) (p2 := 27) (by decide) rfl ⟨by omega, by omega⟩ ⟨by omega, by omega⟩ (fun c227347 => ?_) (fun c227347 => ?_))
        · refine wp_of e293 c293_58 (rw_aload_n (pc' := 59) (v := .ref r0) rfl rfl rfl ?_)
          refine wp_of e293 c293_59 (rw_iconst (pc' := 60) rfl ?_)
          refine wp_of e293 c293_60 (xp_I (pc' := 63) lf_9_48 w227231 g0 sh_42 (by decide) (by decide) ty_42_0 rfl rfl (by omega) (by omega) ⟨by omega, by omega⟩ rfl (fun H227348 e227349 w227350 => ?_))
          have f227351 := f227232.put' e227349 g0 rfl
          have k227352 : H227348 r0 0 = 1 := wq_u_s e227349
          refine wp_of e293 c293_63 (rw_iconst (pc' := 64) rfl ?_)
          have k227353 : wKI H227348 r0 = wKI H r0 := ((wKI_fr w227231 g0 ((wfr.rf (l := [(42, 0)])).put' e227349 g0 rfl) rfl).trans (wKI_fr hW g0 ((wfr.rf (l := [(42, 0)])).put' e227230 g0 rfl) rfl))
          exact wp_ireturn e293 c293_64 rfl ⟨rfl, w227350, f227351, 0, rfl, ⟨by omega, by omega⟩, by omega⟩
        · refine wp_of e293 c293_27 (rw_aload_n (pc' := 28) (v := .ref r0) rfl rfl rfl ?_)
          refine wp_of e293 c293_28 (xg_K (pc' := 31) lf_9_337 w227231 g0 sh_42 (by decide) (by decide) rfl q227337 rfl ?_)
          refine wp_of e293 c293_31 (xg_R (pc' := 34) lf_9_267 w227231 g227338 sh_54 (by decide) (by decide) ty_54_17 rfl rfl (fun r227354 q227355 g227356 => ?_))
          refine wp_of e293 c293_34 (rw_iload_n (pc' := 35) (z := v227328) rfl rfl ?_)
          refine wp_of e293 c293_35 (xa_B (by decide) (pc' := 36) w227231 g227356 sh_63 (by decide) (ty_63 _) (by omega) (by omega) rfl (fun b227357 b227358 => ?_))
          refine wp_of e293 c293_36 (rw_if_ne (p1 := 42) (p2 := 39) (by decide) rfl ⟨by omega, by omega⟩ (fun c227359 => ?_) (fun c227359 => ?_))
          · refine wp_of e293 c293_42 (rw_iload_n (pc' := 43) (z := v227329) rfl rfl ?_)
            refine wp_of e293 c293_43 (rw_iload_n (pc' := 44) (z := a1) rfl rfl ?_)
            refine wp_of e293 c293_44 (rw_icmp_ne (p1 := 49) (p2 := 47) (by decide) rfl ⟨by omega, by omega⟩ ⟨by omega, by omega⟩ (fun c227360 => ?_) (fun c227360 => ?_))
            · refine wp_of e293 c293_49 (rw_iinc (pc' := 52) (z := v227329) (L' := [(2, vI (v227329 + 1)), (3, vI v227328), (0, .ref r0), (1, vI a1)]) rfl rfl rfl rfl ?_)
              refine wp_of e293 c293_52 (rw_iinc (pc' := 55) (z := v227328) (L' := [(3, vI (v227328 + 1)), (2, vI (v227329 + 1)), (0, .ref r0), (1, vI a1)]) rfl rfl rfl rfl ?_)
              refine wp_of e293 c293_55 (rw_goto (p1 := 9) (by decide) ?_)
              exact wp_lc (ks := [3, 2, 0, 1]) (wl_c rfl (wl_c rfl (wl_c rfl (wl_c rfl wl_n)))) rfl (by decide) (ih227327 _ (by omega) (v227328 + 1) (v227329 + 1) ⟨by omega, by omega⟩ ⟨by omega, by omega⟩ (by omega) rfl)
            · refine wp_of e293 c293_47 (rw_iload_n (pc' := 48) (z := v227328) rfl rfl ?_)
              have k227361 : wKI H227229 r0 = wKI H r0 := (wKI_fr hW g0 ((wfr.rf (l := [(42, 0)])).put' e227230 g0 rfl) rfl)
              exact wp_ireturn e293 c293_48 rfl ⟨rfl, w227231, f227232, v227328, rfl, ⟨by omega, by omega⟩, by omega⟩
          · refine wp_of e293 c293_39 (rw_goto (p1 := 52) (by decide) ?_)
            refine wp_of e293 c293_52 (rw_iinc (pc' := 55) (z := v227328) (L' := [(3, vI (v227328 + 1)), (2, vI v227329), (0, .ref r0), (1, vI a1)]) rfl rfl rfl rfl ?_)
            refine wp_of e293 c293_55 (rw_goto (p1 := 9) (by decide) ?_)
            exact wp_lc (ks := [3, 2, 0, 1]) (wl_c rfl (wl_c rfl (wl_c rfl (wl_c rfl wl_n)))) rfl (by decide) (ih227327 _ (by omega) (v227328 + 1) v227329 ⟨by omega, by omega⟩ ⟨by omega, by omega⟩ (by omega) rfl)
  exact wp_lc (ks := [3, 2, 0, 1]) (wl_c rfl (wl_c rfl (wl_c rfl (wl_c rfl wl_n)))) rfl (by decide) (lp227325 _ 0 0 ⟨by omega, by omega⟩ ⟨by omega, by omega⟩ (by omega) rfl)
